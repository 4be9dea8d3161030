section PARSE3
variable {rd0 a11 : Nat → Int32} {a12 : Int32}
theorem tn0_nn {a13 a14 p0 p1 : Int32} : ∀ (n : Nat) (x v : Int32), 0 ≤ (aX10_takeNumber_42 a11 a12 a13 a14 p0 p1 n x v).1 := by
  intro n
  induction n with
  | zero => intro x v; show (0 : Int32) ≤ 0; decide
  | succ n ih =>
    intro x v
    rw [aX10_takeNumber_42]
    have h2 : (0 : Int32) ≤ rX10_fails 2 := by decide
    have h0 : (0 : Int32) ≤ 0 := by decide
    repeat' split
    all_goals first | with_reducible exact h2 | with_reducible exact h0 | with_reducible exact ih _ _
theorem tnr_nn {a13 a14 p0 p1 : Int32} : 0 ≤ rX10_takeNumber a11 a12 a13 a14 p0 p1 := by
  unfold rX10_takeNumber
  split
  · decide
  · exact tn0_nn _ _ _
theorem ttr_nn : ∀ (n : Nat) (f y13 x y15 y16 z17 : Int32) (z18 : Nat → Int32), 0 ≤ f → 0 ≤ (aX10_takeTide_18 a11 a12 n f y13 x y15 y16 z17 z18).1 := by
  intro n
  induction n with
  | zero => intro f y13 x y15 y16 z17 z18 _; show (0 : Int32) ≤ 0; decide
  | succ n ih =>
    intro f y13 x y15 y16 z17 z18 hf
    rw [aX10_takeTide_18]
    have h1 : (0 : Int32) ≤ rX10_fails 1 := by decide
    repeat' split
    all_goals first | with_reducible exact h1 | with_reducible exact hf | with_reducible exact ih _ _ _ _ _ _ _ tnr_nn
theorem tkr_nn {a13 a14 : Int32} : 0 ≤ rX10_takeCase a11 a12 a13 a14 := by
  have e1 : 0 ≤ nX10_takeCase_24_r a11 a12 a13 a14 := tnr_nn
  have e2 : 0 ≤ nX10_takeCase_44_r a11 a12 a13 a14 := tnr_nn
  have e3 : 0 ≤ nX10_takeCase_65_r a11 a12 a13 a14 := tnr_nn
  have e4 : 0 ≤ nX10_takeCase_87_r a11 a12 a13 a14 := tnr_nn
  unfold rX10_takeCase
  repeat' split
  all_goals with_reducible assumption
theorem clr_nn {a13 a14 a15 a16 a17 : Int32} {a18 : Nat → Int32} {a19 a21 : Int32} : 0 ≤ rX10_takeClause a11 a12 a13 a14 a15 a16 a17 a18 a19 a21 := by
  unfold rX10_takeClause
  have h1 : (0 : Int32) ≤ rX10_fails 1 := by decide
  have h3 : (0 : Int32) ≤ rX10_fails 3 := by decide
  have ht : ∀ z : Int32, 0 ≤ rX10_takeTide a11 a12 a13 z a15 a16 a18 := fun z => ttr_nn _ _ _ _ _ _ _ _ tnr_nn
  have hh : ∀ z : Int32, 0 ≤ rX10_takeHut a11 a12 a13 z := fun z => tnr_nn
  have hk : ∀ z : Int32, 0 ≤ rX10_takeCase a11 a12 a13 z := fun z => tkr_nn
  repeat' split
  all_goals first | with_reducible exact h1 | with_reducible exact h3 | with_reducible exact ht _ | with_reducible exact hh _ | with_reducible exact hk _
theorem le0 {x : Int32} (h : 0 ≤ x) : x ≤ 0 ↔ x = 0 := ⟨fun q => Int32.le_antisymm q h, fun q => by rw [q]; decide⟩
/-- four numbers are read alike -/
theorem case4 (hT : TX rd0 a11 a12) {x y a15 : Int32} (x0 : 0 ≤ x) (x240 : x ≤ 240) {X1 F1 P1 V1 X2 F2 P2 V2 X3 F3 P3 V3 X4 F4 P4 V4 : Int32}
    (hV1 : V1 = rX8_readNumber rd0 x a12 0 y 1 9) (hX1 : X1 = sX8_readNumber_1 rd0 x a12 0 y 1 9) (hF1 : F1 = sX8_readNumber_3 rd0 x a12 0 y 1 9) (hP1 : P1 = sX8_readNumber_4 rd0 x a12 0 y 1 9)
    (hV2 : V2 = rX8_readNumber rd0 X1 a12 F1 P1 1 4) (hX2 : X2 = sX8_readNumber_1 rd0 X1 a12 F1 P1 1 4) (hF2 : F2 = sX8_readNumber_3 rd0 X1 a12 F1 P1 1 4) (hP2 : P2 = sX8_readNumber_4 rd0 X1 a12 F1 P1 1 4)
    (hV3 : V3 = rX8_readNumber rd0 X2 a12 F2 P2 0 9) (hX3 : X3 = sX8_readNumber_1 rd0 X2 a12 F2 P2 0 9) (hF3 : F3 = sX8_readNumber_3 rd0 X2 a12 F2 P2 0 9) (hP3 : P3 = sX8_readNumber_4 rd0 X2 a12 F2 P2 0 9)
    (hV4 : V4 = rX8_readNumber rd0 X3 a12 F3 P3 0 999) (hX4 : X4 = sX8_readNumber_1 rd0 X3 a12 F3 P3 0 999) (hF4 : F4 = sX8_readNumber_3 rd0 X3 a12 F3 P3 0 999) (hP4 : P4 = sX8_readNumber_4 rd0 X3 a12 F3 P3 0 999) :
    F4 = rX10_takeCase a11 a12 y x ∧ P4 = sX10_takeCase_13 a11 a12 y x ∧ (rX10_takeCase a11 a12 y x = 0 → X4 = sX10_takeCase_14 a11 a12 y x ∧ (V1 = nX10_takeCase_24_15 a11 a12 y x a15 ∧ 1 ≤ V1 ∧ V1 ≤ 9) ∧ (V2 = nX10_takeCase_44_15 a11 a12 y x a15 ∧ 1 ≤ V2 ∧ V2 ≤ 4) ∧ (V3 = nX10_takeCase_65_15 a11 a12 y x a15 ∧ 0 ≤ V3 ∧ V3 ≤ 9) ∧ (V4 = nX10_takeCase_87_15 a11 a12 y x a15 ∧ 0 ≤ V4 ∧ V4 ≤ 999) ∧ nX10_takeCase_24_r a11 a12 y x = 0 ∧ nX10_takeCase_44_r a11 a12 y x = 0 ∧ nX10_takeCase_65_r a11 a12 y x = 0) := by
  have l24 := le0 (x := nX10_takeCase_24_r a11 a12 y x) tnr_nn
  have l44 := le0 (x := nX10_takeCase_44_r a11 a12 y x) tnr_nn
  have l65 := le0 (x := nX10_takeCase_65_r a11 a12 y x) tnr_nn
  have n1 := num_e hT (x := x) (y := y) (a15 := a15) (p0 := 1) (p1 := 9) x0 x240
  have x1n : 0 ≤ nX10_takeCase_24_14 a11 a12 y x := tn_nn x0 hT.2.2.1
  have x1u : nX10_takeCase_24_14 a11 a12 y x ≤ 240 := tn_ub x0 x240 hT.2.2.1
  unfold rX10_takeCase sX10_takeCase_13 sX10_takeCase_14
  simp only [l24, l44, l65]
  have hF1' : F1 = nX10_takeCase_24_r a11 a12 y x := hF1.trans n1.1
  have hP1' : P1 = nX10_takeCase_24_13 a11 a12 y x := hP1.trans n1.2.1
  have hX1' : X1 = nX10_takeCase_24_14 a11 a12 y x := hX1.trans n1.2.2.1
  by_cases q1 : nX10_takeCase_24_r a11 a12 y x = 0
  · have v1 := n1.2.2.2 q1
    rw [q1] at hF1'
    simp only [if_pos q1]
    have n2 := num_e hT (x := nX10_takeCase_24_14 a11 a12 y x) (y := nX10_takeCase_24_13 a11 a12 y x) (a15 := nX10_takeCase_24_15 a11 a12 y x a15) (p0 := 1) (p1 := 4) x1n x1u
    have x2n : 0 ≤ nX10_takeCase_44_14 a11 a12 y x := tn_nn x1n hT.2.2.1
    have x2u : nX10_takeCase_44_14 a11 a12 y x ≤ 240 := tn_ub x1n x1u hT.2.2.1
    rw [hF1', hP1', hX1'] at hV2 hX2 hF2 hP2
    have hF2' : F2 = nX10_takeCase_44_r a11 a12 y x := hF2.trans n2.1
    have hP2' : P2 = nX10_takeCase_44_13 a11 a12 y x := hP2.trans n2.2.1
    have hX2' : X2 = nX10_takeCase_44_14 a11 a12 y x := hX2.trans n2.2.2.1
    by_cases q2 : nX10_takeCase_44_r a11 a12 y x = 0
    · have v2 := n2.2.2.2 q2
      rw [q2] at hF2'
      simp only [if_pos q2]
      have n3 := num_e hT (x := nX10_takeCase_44_14 a11 a12 y x) (y := nX10_takeCase_44_13 a11 a12 y x) (a15 := nX10_takeCase_44_15 a11 a12 y x a15) (p0 := 0) (p1 := 9) x2n x2u
      have x3n : 0 ≤ nX10_takeCase_65_14 a11 a12 y x := tn_nn x2n hT.2.2.1
      have x3u : nX10_takeCase_65_14 a11 a12 y x ≤ 240 := tn_ub x2n x2u hT.2.2.1
      rw [hF2', hP2', hX2'] at hV3 hX3 hF3 hP3
      have hF3' : F3 = nX10_takeCase_65_r a11 a12 y x := hF3.trans n3.1
      have hP3' : P3 = nX10_takeCase_65_13 a11 a12 y x := hP3.trans n3.2.1
      have hX3' : X3 = nX10_takeCase_65_14 a11 a12 y x := hX3.trans n3.2.2.1
      by_cases q3 : nX10_takeCase_65_r a11 a12 y x = 0
      · have v3 := n3.2.2.2 q3
        rw [q3] at hF3'
        simp only [if_pos q3]
        have n4 := num_e hT (x := nX10_takeCase_65_14 a11 a12 y x) (y := nX10_takeCase_65_13 a11 a12 y x) (a15 := nX10_takeCase_65_15 a11 a12 y x a15) (p0 := 0) (p1 := 999) x3n x3u
        rw [hF3', hP3', hX3'] at hV4 hX4 hF4 hP4
        refine ⟨hF4.trans n4.1, hP4.trans n4.2.1, fun q4 => ?_⟩
        have v4 := n4.2.2.2 q4
        refine ⟨hX4.trans n4.2.2.1, ⟨hV1.trans v1.1, ?_, ?_⟩, ⟨hV2.trans v2.1, ?_, ?_⟩, ⟨hV3.trans v3.1, ?_, ?_⟩, ⟨hV4.trans v4.1, ?_, ?_⟩, q1, q2, q3⟩
        · rw [hV1, v1.1]; exact v1.2.1
        · rw [hV1, v1.1]; exact v1.2.2
        · rw [hV2, v2.1]; exact v2.2.1
        · rw [hV2, v2.1]; exact v2.2.2
        · rw [hV3, v3.1]; exact v3.2.1
        · rw [hV3, v3.1]; exact v3.2.2
        · rw [hV4, v4.1]; exact v4.2.1
        · rw [hV4, v4.1]; exact v4.2.2
      · simp only [if_neg q3]
        have s4 := rn_st (rd0 := rd0) (a12 := a12) (a1 := X3) (a3 := F3) (a4 := P3) (p0 := 0) (p1 := 999) (by rw [hF3']; exact q3)
        exact ⟨hF4.trans (s4.1.trans hF3'), hP4.trans (s4.2.trans hP3'), fun e => absurd e q3⟩
    · simp only [if_neg q2]
      have s3 := rn_st (rd0 := rd0) (a12 := a12) (a1 := X2) (a3 := F2) (a4 := P2) (p0 := 0) (p1 := 9) (by rw [hF2']; exact q2)
      have f3 : F3 = F2 := hF3.trans s3.1
      have s4 := rn_st (rd0 := rd0) (a12 := a12) (a1 := X3) (a3 := F3) (a4 := P3) (p0 := 0) (p1 := 999) (by rw [f3, hF2']; exact q2)
      exact ⟨hF4.trans (s4.1.trans (f3.trans hF2')), hP4.trans (s4.2.trans ((hP3.trans s3.2).trans hP2')), fun e => absurd e q2⟩
  · simp only [if_neg q1]
    have s2 := rn_st (rd0 := rd0) (a12 := a12) (a1 := X1) (a3 := F1) (a4 := P1) (p0 := 1) (p1 := 4) (by rw [hF1']; exact q1)
    have f2 : F2 = F1 := hF2.trans s2.1
    have s3 := rn_st (rd0 := rd0) (a12 := a12) (a1 := X2) (a3 := F2) (a4 := P2) (p0 := 0) (p1 := 9) (by rw [f2, hF1']; exact q1)
    have f3 : F3 = F2 := hF3.trans s3.1
    have s4 := rn_st (rd0 := rd0) (a12 := a12) (a1 := X3) (a3 := F3) (a4 := P3) (p0 := 0) (p1 := 999) (by rw [f3, f2, hF1']; exact q1)
    exact ⟨hF4.trans (s4.1.trans (f3.trans (f2.trans hF1'))), hP4.trans (s4.2.trans ((hP3.trans s3.2).trans ((hP2.trans s2.2).trans hP1'))), fun e => absurd e q1⟩
end PARSE3
