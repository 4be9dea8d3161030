section PARSE4
variable {rd0 a11 : Nat → Int32} {a12 : Int32}
variable {z0 z1 z2 z3 z4 z5 t18 t20 t22 t23 t24 t25 : Nat → Int32} {z6 z7 z8 t17 t19 t21 : Int32}
theorem RB_hut (hR : RB z0 z1 z2 z3 z4 z5 z6 z7 z8 t17 t18 t19 t20 t21 t22 t23 t24 t25) (h4 : t19 < 4) (hp : 0 < t17) {v : Int32} (v1 : 1 ≤ v) (v9 : v ≤ 9) : RB z0 (upd z1 (t19.toNatClampNeg) v) z2 z3 z4 z5 z6 (t19 + 1) z8 t17 t18 (t19 + 1) (upd t20 (t19.toNatClampNeg) v) t21 t22 t23 t24 t25 := by
  obtain ⟨⟨e6, e7, e8⟩, b0, b2, b4, i2, i4, hT, hH, hC⟩ := hR
  refine ⟨⟨e6, rfl, e8⟩, b0, ⟨a_nn b2.1 h4, by grind⟩, b4, fun _ => hp, i4, hT, fun j hj => ?_, hC⟩
  rw [cnS b2.1 h4] at hj
  by_cases e : j = t19.toNatClampNeg
  · subst e
    rw [up_s, up_s]
    exact ⟨rfl, v1, v9⟩
  · rw [up_n e, up_n e]
    exact hH j (by omega)
theorem RB_case (hR : RB z0 z1 z2 z3 z4 z5 z6 z7 z8 t17 t18 t19 t20 t21 t22 t23 t24 t25) (h5 : t21 < 5) (hp : 0 < t17) {v1 v2 v3 v4 : Int32} (r1 : 1 ≤ v1 ∧ v1 ≤ 9) (r2 : 1 ≤ v2 ∧ v2 ≤ 4) (r3 : 0 ≤ v3 ∧ v3 ≤ 9) (r4 : 0 ≤ v4 ∧ v4 ≤ 999) : RB z0 z1 (upd z2 (t21.toNatClampNeg) v1) (upd z3 (t21.toNatClampNeg) v2) (upd z4 (t21.toNatClampNeg) v3) (upd z5 (t21.toNatClampNeg) v4) z6 z7 (t21 + 1) t17 t18 t19 t20 (t21 + 1) (upd t22 (t21.toNatClampNeg) v1) (upd t23 (t21.toNatClampNeg) v2) (upd t24 (t21.toNatClampNeg) v3) (upd t25 (t21.toNatClampNeg) v4) := by
  obtain ⟨⟨e6, e7, e8⟩, b0, b2, b4, i2, i4, hT, hH, hC⟩ := hR
  refine ⟨⟨e6, e7, rfl⟩, b0, b2, ⟨a_nn b4.1 h5, by grind⟩, i2, fun _ => hp, hT, hH, fun j hj => ?_⟩
  rw [cnS b4.1 h5] at hj
  by_cases e : j = t21.toNatClampNeg
  · subst e
    rw [up_s, up_s, up_s, up_s, up_s, up_s, up_s, up_s]
    exact ⟨⟨rfl, r1⟩, ⟨rfl, r2⟩, ⟨rfl, r3⟩, ⟨rfl, r4⟩⟩
  · rw [up_n e, up_n e, up_n e, up_n e, up_n e, up_n e, up_n e, up_n e]
    exact hC j (by omega)
set_option maxHeartbeats 4000000 in
/-- a clause is read alike -/
theorem clause_eq (hT : TX rd0 a11 a12) (hR : RB z0 z1 z2 z3 z4 z5 z6 z7 z8 t17 t18 t19 t20 t21 t22 t23 t24 t25) {x y a15 a16 : Int32} (x0 : 0 ≤ x) (hx : ¬ a12 ≤ x) (hs : sX8_skipBlanks_1 rd0 x a12 = x) :
    sX8_readClause_3 rd0 x a12 0 y z0 z6 z7 z8 = rX10_takeClause a11 a12 y x a15 a16 t17 t18 t19 t21 ∧ sX8_readClause_4 rd0 x a12 0 y z0 z6 z7 z8 = sX10_takeClause_13 a11 a12 y x a15 a16 t17 t18 t19 t21 ∧
    (rX10_takeClause a11 a12 y x a15 a16 t17 t18 t19 t21 = 0 → sX8_readClause_1 rd0 x a12 0 y z0 z6 z7 z8 = sX10_takeClause_14 a11 a12 y x a15 a16 t17 t18 t19 t21 ∧ RB (sX8_readClause_arg0_0 rd0 x a12 0 y z0 z6) (sX8_readClause_arg0_1 rd0 x a12 0 y z1 z6 z7) (sX8_readClause_arg0_2 rd0 x a12 0 y z2 z6 z8) (sX8_readClause_arg0_3 rd0 x a12 0 y z3 z6 z8) (sX8_readClause_arg0_4 rd0 x a12 0 y z4 z6 z8) (sX8_readClause_arg0_5 rd0 x a12 0 y z5 z6 z8) (sX8_readClause_arg0_6 rd0 x a12 0 y z0 z6) (sX8_readClause_arg0_7 rd0 x a12 z6 z7) (sX8_readClause_arg0_8 rd0 x a12 z6 z8) (sX10_takeClause_17 a11 a12 y x a15 a16 t17 t18 t19 t21) (sX10_takeClause_18 a11 a12 y x a15 a16 t17 t18 t19 t21) (sX10_takeClause_19 a11 a12 y x a15 a16 t17 t18 t19 t21) (sX10_takeClause_20 a11 a12 y x a15 a16 t17 t18 t19 t20 t21) (sX10_takeClause_21 a11 a12 y x a15 a16 t17 t18 t19 t21) (sX10_takeClause_22 a11 a12 y x a15 a16 t17 t18 t19 t21 t22) (sX10_takeClause_23 a11 a12 y x a15 a16 t17 t18 t19 t21 t23) (sX10_takeClause_24 a11 a12 y x a15 a16 t17 t18 t19 t21 t24) (sX10_takeClause_25 a11 a12 y x a15 a16 t17 t18 t19 t21 t25)) := by
  have hR' := hR
  obtain ⟨⟨rfl, rfl, rfl⟩, b0, b2, b4, i2, i4, -, -, -⟩ := hR
  have eh : rX10_here a11 a12 x = rX8_letter rd0 x a12 := by rw [here_r hT x0, hs]
  have eh14 : sX10_here_14 a11 a12 x = x := by rw [here_e hT x0, hs]
  have x240 : x < 240 := Int32.lt_of_lt_of_le (Int32.not_le.mp hx) hT.2.2.1
  have xn : 0 ≤ x + 1 := a_nn x0 x240
  have xu : x + 1 ≤ 240 := by grind
  have st := stands_iff b0.1
  have lz := le0 b0.1
  have f3 : ¬ rX10_fails 3 = 0 := by decide
  have f1 : ¬ rX10_fails 1 = 0 := by decide
  unfold sX8_readClause_3 sX8_readClause_4 sX8_readClause_1 sX8_readClause_arg0_0 sX8_readClause_arg0_1 sX8_readClause_arg0_2 sX8_readClause_arg0_3 sX8_readClause_arg0_4 sX8_readClause_arg0_5 sX8_readClause_arg0_6 sX8_readClause_arg0_7 sX8_readClause_arg0_8 rX10_takeClause sX10_takeClause_13 sX10_takeClause_14 sX10_takeClause_17 sX10_takeClause_18 sX10_takeClause_19 sX10_takeClause_20 sX10_takeClause_21 sX10_takeClause_22 sX10_takeClause_23 sX10_takeClause_24 sX10_takeClause_25
  simp only [eh, eh14, st, lz, ite_self]
  by_cases q1 : rX8_letter rd0 x a12 = 98
  · simp only [if_pos q1]
    unfold sX8_readTide_3 sX8_readTide_4 sX8_readTide_1 sX8_readTide_arg0_0 sX8_readTide_arg0_6
    simp only [st]
    by_cases q2 : z6 = 0
    · simp only [if_pos q2]
      have z2' : ¬ 0 < z6 := by rw [q2]; decide
      have h7 : z7 = 0 := by
        have : ¬ 0 < z7 := fun e => z2' (i2 e)
        grind
      have h8 : z8 = 0 := by
        have : ¬ 0 < z8 := fun e => z2' (i4 e)
        grind
      have c0 : (0 : Int32).toNatClampNeg = 0 := rfl
      have c1 : nI (0 + 1) = (1 : Int32) := rfl
      have c2 : nI 0 = (0 : Int32) := rfl
      obtain ⟨Tt, hTt⟩ : ∃ t, t = aX10_takeTide_18 a11 a12 13 (rX10_takeNumber a11 a12 y (x + 1) 0 9) (sX10_takeNumber_13 a11 a12 y (x + 1) 0 9) (sX10_takeNumber_14 a11 a12 y (x + 1) 0 9) (sX10_takeNumber_15 a11 a12 y (x + 1) a15 0 9) (sX10_takeNumber_16 a11 a12 (x + 1) a16) 1 (upd t18 0 (sX10_takeNumber_15 a11 a12 y (x + 1) a15 0 9)) := ⟨_, rfl⟩
      obtain ⟨C, hC⟩ : ∃ t, t = aX8_readTide_19 rd0 a12 13 1 0 (x + 1) 0 y z0 z6 := ⟨_, rfl⟩
      have te := tide_eq hT 13 0 rfl (by decide) (x + 1) y a15 a16 z0 t18 xn xu (fun j hj => absurd hj (Nat.not_lt_zero _)) C Tt (by rw [hC, q2, c2]) (by rw [hTt, c1])
      rw [← hC]
      have g1 : rX10_takeTide a11 a12 y (x + 1) a15 a16 t18 = Tt.1 := by unfold rX10_takeTide; rw [hTt, c0]
      have g2 : sX10_takeTide_13 a11 a12 y (x + 1) a15 a16 t18 = Tt.2.1 := by unfold sX10_takeTide_13; rw [hTt, c0]
      have g3 : sX10_takeTide_14 a11 a12 y (x + 1) a15 a16 t18 = Tt.2.2.1 := by unfold sX10_takeTide_14; rw [hTt, c0]
      have g4 : sX10_takeTide_17 a11 a12 y (x + 1) a15 a16 t18 = Tt.2.2.2.2.2.1 := by unfold sX10_takeTide_17; rw [hTt, c0]
      have g5 : sX10_takeTide_18 a11 a12 y (x + 1) a15 a16 t18 = Tt.2.2.2.2.2.2 := by unfold sX10_takeTide_18; rw [hTt, c0]
      have tnn := tt_nn (a11 := a11) (a13 := y) (a15 := a15) (a16 := a16) (a18 := t18) xn hT.2.2.1
      rw [← g1, ← g2, ← g3, ← g4, ← g5] at te
      have ec := end_c hT (X := sX10_takeTide_14 a11 a12 y (x + 1) a15 a16 t18) (X' := sX10_takeTide_14 a11 a12 y (x + 1) a15 a16 t18) (f := rX10_takeTide a11 a12 y (x + 1) a15 a16 t18) (p := sX10_takeTide_13 a11 a12 y (x + 1) a15 a16 t18) tnn (fun _ => rfl)
      rw [te.1, te.2.1, ec.1, ec.2.1]
      refine ⟨rfl, rfl, fun hz => ?_⟩
      have hf : rX10_takeTide a11 a12 y (x + 1) a15 a16 t18 = 0 := Classical.byContradiction fun w => by rw [if_neg w] at hz; exact w hz
      have h59 : rX10_here a11 a12 (sX10_takeTide_14 a11 a12 y (x + 1) a15 a16 t18) = 59 := Classical.byContradiction fun w => by rw [if_pos hf, if_neg w] at hz; exact f1 hz
      have t3 := te.2.2 hf
      rw [if_pos hf, if_pos h59]
      refine ⟨t3.1.trans (ec.2.2 hf h59), ⟨t3.2.1, rfl, rfl⟩, ⟨Int32.le_of_lt t3.2.2.1, t3.2.2.2.1⟩, b2, b4, fun _ => t3.2.2.1, fun _ => t3.2.2.1, t3.2.2.2.2, ?_, ?_⟩
      · intro j hj
        rw [h7] at hj
        exact absurd hj (Nat.not_lt_zero _)
      · intro j hj
        rw [h8] at hj
        exact absurd hj (Nat.not_lt_zero _)
    · simp only [if_neg q2, note3_0, note4_0]
      exact ⟨rfl, rfl, fun e => absurd e f3⟩
  · simp only [if_neg q1]
    by_cases q2 : rX8_letter rd0 x a12 = 104
    · have q99 : ¬ rX8_letter rd0 x a12 = 99 := by rw [q2]; decide
      simp only [if_pos q2, if_neg q99]
      by_cases q3 : z6 = 0
      · simp only [if_pos q3, note3_0, note4_0]
        exact ⟨rfl, rfl, fun e => absurd e f1⟩
      · simp only [if_neg q3]
        have hp : 0 < z6 := by grind
        unfold sX8_readHut_3 sX8_readHut_4 sX8_readHut_1 sX8_readHut_arg0_1 sX8_readHut_arg0_7
        by_cases q4 : z7 = 4
        · have c4 : ¬ z7 < 4 := by rw [q4]; decide
          simp only [if_pos q4, if_neg c4, note3_0, note4_0]
          exact ⟨rfl, rfl, fun e => absurd e f3⟩
        · have c4 : z7 < 4 := by grind
          have c5 : ¬ (4 : Int32) ≤ z7 := Int32.not_le.mpr c4
          simp only [if_neg q4, if_pos c4]
          have ne := num_e hT (x := x + 1) (y := y) (a15 := a15) (p0 := 1) (p1 := 9) xn xu
          have ec := end_c hT (X := sX8_readNumber_1 rd0 (x + 1) a12 0 y 1 9) (X' := sX10_takeHut_14 a11 a12 y (x + 1)) (f := rX10_takeHut a11 a12 y (x + 1)) (p := sX10_takeHut_13 a11 a12 y (x + 1)) (th_nn xn hT.2.2.1) (fun _ => ne.2.2.1)
          rw [show sX8_readNumber_3 rd0 (x + 1) a12 0 y 1 9 = rX10_takeHut a11 a12 y (x + 1) from ne.1, show sX8_readNumber_4 rd0 (x + 1) a12 0 y 1 9 = sX10_takeHut_13 a11 a12 y (x + 1) from ne.2.1, ec.1, ec.2.1]
          refine ⟨rfl, rfl, fun hz => ?_⟩
          have hf : rX10_takeHut a11 a12 y (x + 1) = 0 := Classical.byContradiction fun w => by rw [if_neg w] at hz; exact w hz
          have h59 : rX10_here a11 a12 (sX10_takeHut_14 a11 a12 y (x + 1)) = 59 := Classical.byContradiction fun w => by rw [if_pos hf, if_neg w] at hz; exact f1 hz
          have nv := ne.2.2.2 hf
          rw [if_pos hf, if_pos h59]
          refine ⟨ec.2.2 hf h59, ?_⟩
          unfold sX0_addHut_1 sX0_addHut_7 sX10_takeHut_19 sX10_takeHut_20
          rw [if_neg c5, if_neg c5, nv.1]
          exact RB_hut hR' c4 hp nv.2.1 nv.2.2
    · simp only [if_neg q2]
      by_cases q3 : rX8_letter rd0 x a12 = 99
      · simp only [if_pos q3]
        by_cases q4 : z6 = 0
        · simp only [if_pos q4, note3_0, note4_0]
          exact ⟨rfl, rfl, fun e => absurd e f1⟩
        · simp only [if_neg q4]
          have hp : 0 < z6 := by grind
          unfold sX8_readCase_3 sX8_readCase_4 sX8_readCase_1 sX8_readCase_arg0_2 sX8_readCase_arg0_3 sX8_readCase_arg0_4 sX8_readCase_arg0_5 sX8_readCase_arg0_8
          by_cases q5 : z8 = 5
          · have c5 : ¬ z8 < 5 := by rw [q5]; decide
            simp only [if_pos q5, if_neg c5, note3_0, note4_0]
            exact ⟨rfl, rfl, fun e => absurd e f3⟩
          · have c5 : z8 < 5 := by grind
            have c6 : ¬ (5 : Int32) ≤ z8 := Int32.not_le.mpr c5
            simp only [if_neg q5, if_pos c5]
            have c4 := case4 hT (x := x + 1) (y := y) (a15 := a15) xn xu rfl rfl rfl rfl rfl rfl rfl rfl rfl rfl rfl rfl rfl rfl rfl rfl
            have ec := end_c hT (X' := sX10_takeCase_14 a11 a12 y (x + 1)) (f := rX10_takeCase a11 a12 y (x + 1)) (p := sX10_takeCase_13 a11 a12 y (x + 1)) (tk_nn xn hT.2.2.1) (fun e => (c4.2.2 e).1)
            rw [c4.1, c4.2.1, ec.1, ec.2.1]
            refine ⟨rfl, rfl, fun hz => ?_⟩
            have hf : rX10_takeCase a11 a12 y (x + 1) = 0 := Classical.byContradiction fun w => by rw [if_neg w] at hz; exact w hz
            have h59 : rX10_here a11 a12 (sX10_takeCase_14 a11 a12 y (x + 1)) = 59 := Classical.byContradiction fun w => by rw [if_pos hf, if_neg w] at hz; exact f1 hz
            obtain ⟨-, v1, v2, v3, v4, r1, r2, r3⟩ := c4.2.2 hf
            rw [if_pos hf, if_pos h59]
            refine ⟨ec.2.2 hf h59, ?_⟩
            have g22 : sX10_takeCase_22 a11 a12 y (x + 1) a15 z8 t22 = upd t22 (z8.toNatClampNeg) (nX10_takeCase_24_15 a11 a12 y (x + 1) a15) := by unfold sX10_takeCase_22; simp only [ite_self]; rfl
            have l0 : (0 : Int32) ≤ 0 := by decide
            have g23 : sX10_takeCase_23 a11 a12 y (x + 1) a15 z8 t23 = upd t23 (z8.toNatClampNeg) (nX10_takeCase_44_15 a11 a12 y (x + 1) a15) := by unfold sX10_takeCase_23; simp only [r1, if_pos l0, ite_self]; rfl
            have g24 : sX10_takeCase_24 a11 a12 y (x + 1) a15 z8 t24 = upd t24 (z8.toNatClampNeg) (nX10_takeCase_65_15 a11 a12 y (x + 1) a15) := by unfold sX10_takeCase_24; simp only [r1, r2, if_pos l0, ite_self]; rfl
            have g25 : sX10_takeCase_25 a11 a12 y (x + 1) a15 z8 t25 = upd t25 (z8.toNatClampNeg) (nX10_takeCase_87_15 a11 a12 y (x + 1) a15) := by unfold sX10_takeCase_25; simp only [r1, r2, r3, if_pos l0]; rfl
            rw [tk_21, g22, g23, g24, g25]
            unfold sX0_addCase_2 sX0_addCase_3 sX0_addCase_4 sX0_addCase_5 sX0_addCase_8
            rw [if_neg c6, if_neg c6, if_neg c6, if_neg c6, if_neg c6, v1.1, v2.1, v3.1, v4.1]
            exact RB_case hR' c5 hp (by rw [← v1.1]; exact v1.2) (by rw [← v2.1]; exact v2.2) (by rw [← v3.1]; exact v3.2) (by rw [← v4.1]; exact v4.2)
      · simp only [if_neg q3, note3_0, note4_0]
        exact ⟨rfl, rfl, fun e => absurd e f1⟩
end PARSE4
