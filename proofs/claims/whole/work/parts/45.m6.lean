theorem tt_u0 {a11 : Nat → Int32} {a12 : Int32} (hl : a12 ≤ 240) : ∀ (n : Nat) (f y13 x y15 y16 z17 : Int32) (z18 : Nat → Int32), 0 ≤ x → x ≤ 240 → (aX10_takeTide_18 a11 a12 n f y13 x y15 y16 z17 z18).2.2.1 ≤ 240 := by
  intro n
  induction n with
  | zero => intro f y13 x y15 y16 z17 z18 hx h1; exact h1
  | succ n ih =>
    intro f y13 x y15 y16 z17 z18 hx h1
    rw [aX10_takeTide_18]
    have hm := here_ub (a11 := a11) hx h1 hl
    split
    · split
      · rename_i q
        split
        · with_reducible exact hm
        · rename_i q2
          have hx1 := a_nn (here_nn hx hl) (h_lt hx hl q (by decide))
          have hx2 : sX10_here_14 a11 a12 x + 1 ≤ 240 := by
            have := h_lt hx hl q (by decide)
            grind
          with_reducible exact ih _ _ _ _ _ _ _ (tn_nn hx1 hl) (tn_ub hx1 hx2 hl)
      · with_reducible exact hm
    · with_reducible exact h1
theorem tt_ub {a11 : Nat → Int32} {a12 a13 a14 a15 a16 : Int32} {a18 : Nat → Int32} (h0 : 0 ≤ a14) (h1 : a14 ≤ 240) (hl : a12 ≤ 240) : sX10_takeTide_14 a11 a12 a13 a14 a15 a16 a18 ≤ 240 := by
  unfold sX10_takeTide_14
  exact tt_u0 hl _ _ _ _ _ _ _ _ (tn_nn h0 hl) (tn_ub h0 h1 hl)
theorem th_ub {a11 : Nat → Int32} {a12 a13 a14 : Int32} (h0 : 0 ≤ a14) (h1 : a14 ≤ 240) (hl : a12 ≤ 240) : sX10_takeHut_14 a11 a12 a13 a14 ≤ 240 := by
  unfold sX10_takeHut_14
  exact tn_ub h0 h1 hl
theorem tk_ub {a11 : Nat → Int32} {a12 a13 a14 : Int32} (h0 : 0 ≤ a14) (h1 : a14 ≤ 240) (hl : a12 ≤ 240) : sX10_takeCase_14 a11 a12 a13 a14 ≤ 240 := by
  have q24 : 0 ≤ nX10_takeCase_24_14 a11 a12 a13 a14 ∧ nX10_takeCase_24_14 a11 a12 a13 a14 ≤ 240 := by
    unfold nX10_takeCase_24_14
    exact ⟨tn_nn h0 hl, tn_ub h0 h1 hl⟩
  have q44 : 0 ≤ nX10_takeCase_44_14 a11 a12 a13 a14 ∧ nX10_takeCase_44_14 a11 a12 a13 a14 ≤ 240 := by
    unfold nX10_takeCase_44_14
    exact ⟨tn_nn q24.1 hl, tn_ub q24.1 q24.2 hl⟩
  have q65 : 0 ≤ nX10_takeCase_65_14 a11 a12 a13 a14 ∧ nX10_takeCase_65_14 a11 a12 a13 a14 ≤ 240 := by
    unfold nX10_takeCase_65_14
    exact ⟨tn_nn q44.1 hl, tn_ub q44.1 q44.2 hl⟩
  have q87 : 0 ≤ nX10_takeCase_87_14 a11 a12 a13 a14 ∧ nX10_takeCase_87_14 a11 a12 a13 a14 ≤ 240 := by
    unfold nX10_takeCase_87_14
    exact ⟨tn_nn q65.1 hl, tn_ub q65.1 q65.2 hl⟩
  unfold sX10_takeCase_14
  repeat' split
  all_goals first | with_reducible exact q24.2 | with_reducible exact q44.2 | with_reducible exact q65.2 | with_reducible exact q87.2
theorem h_all {a11 : Nat → Int32} {a12 y : Int32} (h0 : 0 ≤ y) (h1 : y ≤ 240) (hl : a12 ≤ 240) : 0 ≤ sX10_here_14 a11 a12 y ∧ 0 ≤ sX10_here_14 a11 a12 y + 1 ∧ 0 ≤ y + 1 ∧ y < sX10_here_14 a11 a12 y + 1 ∧ sX10_here_14 a11 a12 y + 1 ≤ 241 := by
  have a := here_nn (a11 := a11) h0 hl
  have b := here_ub (a11 := a11) h0 h1 hl
  have c := here_mo (a11 := a11) h0 hl
  refine ⟨a, by grind, by grind, by grind, by grind⟩

theorem cl_14 {a11 : Nat → Int32} {a12 a13 a14 a15 a16 a17 : Int32} {a18 : Nat → Int32} {a19 a21 : Int32} (h0 : 0 ≤ a14) (hl : a12 ≤ 240) : 0 ≤ sX10_takeClause_14 a11 a12 a13 a14 a15 a16 a17 a18 a19 a21 := by
  have hh := here_nn (a11 := a11) h0 hl
  unfold sX10_takeClause_14
  split
  · rename_i q
    have hq := h_lt h0 hl q (by decide)
    have hx1 : 0 ≤ (sX10_here_14 a11 a12 a14 + 1) := a_nn hh hq
    have hx2 : (sX10_here_14 a11 a12 a14 + 1) ≤ 240 := by grind
    have hy0 : 0 ≤ (sX10_takeTide_14 a11 a12 a13 (sX10_here_14 a11 a12 a14 + 1) a15 a16 a18) := tt_nn hx1 hl
    have hym : (sX10_here_14 a11 a12 a14 + 1) ≤ (sX10_takeTide_14 a11 a12 a13 (sX10_here_14 a11 a12 a14 + 1) a15 a16 a18) := tt_mo hx1 hl
    have hy1 : (sX10_takeTide_14 a11 a12 a13 (sX10_here_14 a11 a12 a14 + 1) a15 a16 a18) ≤ 240 := tt_ub hx1 hx2 hl
    have hz := h_all (a11 := a11) hy0 hy1 hl
    repeat' split
    all_goals first | with_reducible exact hh | with_reducible exact hz.1 | with_reducible exact hz.2.1 | with_reducible exact hz.2.2.1
  · split
    · rename_i q
      have hq := h_lt h0 hl q (by decide)
      have hx1 : 0 ≤ (sX10_here_14 a11 a12 a14 + 1) := a_nn hh hq
      have hx2 : (sX10_here_14 a11 a12 a14 + 1) ≤ 240 := by grind
      have hy0 : 0 ≤ (sX10_takeHut_14 a11 a12 a13 (sX10_here_14 a11 a12 a14 + 1)) := th_nn hx1 hl
      have hym : (sX10_here_14 a11 a12 a14 + 1) ≤ (sX10_takeHut_14 a11 a12 a13 (sX10_here_14 a11 a12 a14 + 1)) := th_mo hx1 hl
      have hy1 : (sX10_takeHut_14 a11 a12 a13 (sX10_here_14 a11 a12 a14 + 1)) ≤ 240 := th_ub hx1 hx2 hl
      have hz := h_all (a11 := a11) hy0 hy1 hl
      repeat' split
      all_goals first | with_reducible exact hh | with_reducible exact hz.1 | with_reducible exact hz.2.1 | with_reducible exact hz.2.2.1
    · split
      · rename_i q
        have hq := h_lt h0 hl q (by decide)
        have hx1 : 0 ≤ (sX10_here_14 a11 a12 a14 + 1) := a_nn hh hq
        have hx2 : (sX10_here_14 a11 a12 a14 + 1) ≤ 240 := by grind
        have hy0 : 0 ≤ (sX10_takeCase_14 a11 a12 a13 (sX10_here_14 a11 a12 a14 + 1)) := tk_nn hx1 hl
        have hym : (sX10_here_14 a11 a12 a14 + 1) ≤ (sX10_takeCase_14 a11 a12 a13 (sX10_here_14 a11 a12 a14 + 1)) := tk_mo hx1 hl
        have hy1 : (sX10_takeCase_14 a11 a12 a13 (sX10_here_14 a11 a12 a14 + 1)) ≤ 240 := tk_ub hx1 hx2 hl
        have hz := h_all (a11 := a11) hy0 hy1 hl
        repeat' split
        all_goals first | with_reducible exact hh | with_reducible exact hz.1 | with_reducible exact hz.2.1 | with_reducible exact hz.2.2.1
      · exact hh
theorem cl_up {a11 : Nat → Int32} {a12 a13 a14 a15 a16 a17 : Int32} {a18 : Nat → Int32} {a19 a21 : Int32} (h0 : 0 ≤ a14) (hl : a12 ≤ 240) : rX10_takeClause a11 a12 a13 a14 a15 a16 a17 a18 a19 a21 = 0 → a14 < sX10_takeClause_14 a11 a12 a13 a14 a15 a16 a17 a18 a19 a21 ∧ sX10_takeClause_14 a11 a12 a13 a14 a15 a16 a17 a18 a19 a21 ≤ 241 := by
  have hh := here_nn (a11 := a11) h0 hl
  unfold rX10_takeClause sX10_takeClause_14
  split
  · rename_i q
    have hq := h_lt h0 hl q (by decide)
    have hx1 : 0 ≤ (sX10_here_14 a11 a12 a14 + 1) := a_nn hh hq
    have hx2 : (sX10_here_14 a11 a12 a14 + 1) ≤ 240 := by grind
    have hy0 : 0 ≤ (sX10_takeTide_14 a11 a12 a13 (sX10_here_14 a11 a12 a14 + 1) a15 a16 a18) := tt_nn hx1 hl
    have hym : (sX10_here_14 a11 a12 a14 + 1) ≤ (sX10_takeTide_14 a11 a12 a13 (sX10_here_14 a11 a12 a14 + 1) a15 a16 a18) := tt_mo hx1 hl
    have hy1 : (sX10_takeTide_14 a11 a12 a13 (sX10_here_14 a11 a12 a14 + 1) a15 a16 a18) ≤ 240 := tt_ub hx1 hx2 hl
    have hz := h_all (a11 := a11) hy0 hy1 hl
    have hw := here_mo (a11 := a11) h0 hl
    have hs : a14 < sX10_here_14 a11 a12 (sX10_takeTide_14 a11 a12 a13 (sX10_here_14 a11 a12 a14 + 1) a15 a16 a18) + 1 := by grind
    repeat' split
    all_goals intro e
    all_goals first | with_reducible exact ⟨hs, hz.2.2.2.2⟩ | with_reducible contradiction | exact absurd e (by decide)
  · split
    · rename_i q
      have hq := h_lt h0 hl q (by decide)
      have hx1 : 0 ≤ (sX10_here_14 a11 a12 a14 + 1) := a_nn hh hq
      have hx2 : (sX10_here_14 a11 a12 a14 + 1) ≤ 240 := by grind
      have hy0 : 0 ≤ (sX10_takeHut_14 a11 a12 a13 (sX10_here_14 a11 a12 a14 + 1)) := th_nn hx1 hl
      have hym : (sX10_here_14 a11 a12 a14 + 1) ≤ (sX10_takeHut_14 a11 a12 a13 (sX10_here_14 a11 a12 a14 + 1)) := th_mo hx1 hl
      have hy1 : (sX10_takeHut_14 a11 a12 a13 (sX10_here_14 a11 a12 a14 + 1)) ≤ 240 := th_ub hx1 hx2 hl
      have hz := h_all (a11 := a11) hy0 hy1 hl
      have hw := here_mo (a11 := a11) h0 hl
      have hs : a14 < sX10_here_14 a11 a12 (sX10_takeHut_14 a11 a12 a13 (sX10_here_14 a11 a12 a14 + 1)) + 1 := by grind
      repeat' split
      all_goals intro e
      all_goals first | with_reducible exact ⟨hs, hz.2.2.2.2⟩ | with_reducible contradiction | exact absurd e (by decide)
    · split
      · rename_i q
        have hq := h_lt h0 hl q (by decide)
        have hx1 : 0 ≤ (sX10_here_14 a11 a12 a14 + 1) := a_nn hh hq
        have hx2 : (sX10_here_14 a11 a12 a14 + 1) ≤ 240 := by grind
        have hy0 : 0 ≤ (sX10_takeCase_14 a11 a12 a13 (sX10_here_14 a11 a12 a14 + 1)) := tk_nn hx1 hl
        have hym : (sX10_here_14 a11 a12 a14 + 1) ≤ (sX10_takeCase_14 a11 a12 a13 (sX10_here_14 a11 a12 a14 + 1)) := tk_mo hx1 hl
        have hy1 : (sX10_takeCase_14 a11 a12 a13 (sX10_here_14 a11 a12 a14 + 1)) ≤ 240 := tk_ub hx1 hx2 hl
        have hz := h_all (a11 := a11) hy0 hy1 hl
        have hw := here_mo (a11 := a11) h0 hl
        have hs : a14 < sX10_here_14 a11 a12 (sX10_takeCase_14 a11 a12 a13 (sX10_here_14 a11 a12 a14 + 1)) + 1 := by grind
        repeat' split
        all_goals intro e
        all_goals first | with_reducible exact ⟨hs, hz.2.2.2.2⟩ | with_reducible contradiction | exact absurd e (by decide)
      · intro e
        exact absurd e (by decide)
theorem cl_17 {a11 : Nat → Int32} {a12 a13 a14 a15 a16 a17 : Int32} {a18 : Nat → Int32} {a19 a21 : Int32} (h0 : 0 ≤ a14) (hl : a12 ≤ 240) (u0 : 0 ≤ a17) (u1 : a17 ≤ 12) : 0 ≤ sX10_takeClause_17 a11 a12 a13 a14 a15 a16 a17 a18 a19 a21 ∧ sX10_takeClause_17 a11 a12 a13 a14 a15 a16 a17 a18 a19 a21 ≤ 12 := by
  have hh := here_nn (a11 := a11) h0 hl
  unfold sX10_takeClause_17
  split
  · rename_i q
    have hx1 : 0 ≤ (sX10_here_14 a11 a12 a14 + 1) := a_nn hh (h_lt h0 hl q (by decide))
    have hy := tt_17 (a11 := a11) (a13 := a13) (a15 := a15) (a16 := a16) (a18 := a18) hx1 hl
    repeat' split
    all_goals first | with_reducible exact hy | with_reducible exact ⟨u0, u1⟩
  · repeat' split
    all_goals with_reducible exact ⟨u0, u1⟩
theorem cl_19 {a11 : Nat → Int32} {a12 a13 a14 a15 a16 a17 : Int32} {a18 : Nat → Int32} {a19 a21 : Int32} (u0 : 0 ≤ a19) (u1 : a19 ≤ 4) : 0 ≤ sX10_takeClause_19 a11 a12 a13 a14 a15 a16 a17 a18 a19 a21 ∧ sX10_takeClause_19 a11 a12 a13 a14 a15 a16 a17 a18 a19 a21 ≤ 4 := by
  unfold sX10_takeClause_19
  split
  · repeat' split
    all_goals with_reducible exact ⟨u0, u1⟩
  · split
    · split
      · with_reducible exact ⟨u0, u1⟩
      · split
        · with_reducible exact ⟨u0, u1⟩
        · have hz : 0 ≤ sX10_takeHut_19 a19 ∧ sX10_takeHut_19 a19 ≤ 4 := by unfold sX10_takeHut_19; grind
          repeat' split
          all_goals with_reducible exact hz
    · repeat' split
      all_goals with_reducible exact ⟨u0, u1⟩
theorem cl_21 {a11 : Nat → Int32} {a12 a13 a14 a15 a16 a17 : Int32} {a18 : Nat → Int32} {a19 a21 : Int32} (u0 : 0 ≤ a21) (u1 : a21 ≤ 5) : 0 ≤ sX10_takeClause_21 a11 a12 a13 a14 a15 a16 a17 a18 a19 a21 ∧ sX10_takeClause_21 a11 a12 a13 a14 a15 a16 a17 a18 a19 a21 ≤ 5 := by
  unfold sX10_takeClause_21
  split
  · repeat' split
    all_goals with_reducible exact ⟨u0, u1⟩
  · split
    · repeat' split
      all_goals with_reducible exact ⟨u0, u1⟩
    · split
      · split
        · with_reducible exact ⟨u0, u1⟩
        · split
          · with_reducible exact ⟨u0, u1⟩
          · rw [tk_21]
            have hz : 0 ≤ a21 + 1 ∧ a21 + 1 ≤ 5 := by grind
            repeat' split
            all_goals with_reducible exact hz
      · with_reducible exact ⟨u0, u1⟩
theorem bmeas {f f' x x' : Int32} {n : Nat} (hf : f = 0) (hm : (if f = 0 then ((241 : Nat) - x.toInt).toNat + 1 else 0) < n + 1) (h : f' = 0 → x < x' ∧ x' ≤ 241) : (if f' = 0 then ((241 : Nat) - x'.toInt).toNat + 1 else 0) < n := by
  rw [if_pos hf] at hm
  split
  · rename_i q
    have h1 := h q
    have h2 := Int32.lt_iff_toInt_lt.mp h1.1
    have h3 := Int32.le_iff_toInt_le.mp h1.2
    have e : (241 : Int32).toInt = 241 := rfl
    rw [e] at h3
    omega
  · omega

theorem iX10_takeRead_X10 : ∀ z ∈ wsX100, z ∈ wsX10_takeRead := fun z h => List.mem_cons_of_mem _ (List.mem_append_right _ h)
theorem kX10_takeRead_134 : Cond.fieldLink RX10 134 "BathingCourtModel" (TX10 17).2.1 (TX10 17).2.2.1 ∈ wsX10_takeRead := List.mem_of_getElem? (i := 1) rfl
theorem kX10_takeRead_152 : Cond.fieldLink RX10 152 "BathingCourtModel" (TX10 0).2.1 (TX10 0).2.2.1 ∈ wsX10_takeRead := List.mem_of_getElem? (i := 2) rfl
theorem kX10_takeRead_137 : Cond.fieldLink RX10 137 "BathingCourtModel" (TX10 19).2.1 (TX10 19).2.2.1 ∈ wsX10_takeRead := List.mem_of_getElem? (i := 3) rfl
theorem kX10_takeRead_87 : Cond.fieldLink RX10 87 "BathingCourtModel" (TX10 2).2.1 (TX10 2).2.2.1 ∈ wsX10_takeRead := List.mem_of_getElem? (i := 4) rfl
theorem kX10_takeRead_140 : Cond.fieldLink RX10 140 "BathingCourtModel" (TX10 21).2.1 (TX10 21).2.2.1 ∈ wsX10_takeRead := List.mem_of_getElem? (i := 5) rfl
theorem kX10_takeRead_94 : Cond.fieldLink RX10 94 "BathingCourtModel" (TX10 4).2.1 (TX10 4).2.2.1 ∈ wsX10_takeRead := List.mem_of_getElem? (i := 6) rfl
theorem kX10_takeRead_28 : Cond.fieldLink RX10 28 "BathingCourtModel" (TX10 9).2.1 (TX10 9).2.2.1 ∈ wsX10_takeRead := List.mem_of_getElem? (i := 19) rfl
theorem kX10_takeRead_16 : Cond.fieldLink RX10 16 "BathingCourtModel" (TX10 5).2.1 (TX10 5).2.2.1 ∈ wsX10_takeRead := List.mem_of_getElem? (i := 11) rfl
theorem kX10_takeRead_44 : Cond.fieldLink RX10 44 "BathingCourtModel" (TX10 22).2.1 (TX10 22).2.2.1 ∈ wsX10_takeRead := List.mem_of_getElem? (i := 12) rfl
theorem kX10_takeRead_19 : Cond.fieldLink RX10 19 "BathingCourtModel" (TX10 6).2.1 (TX10 6).2.2.1 ∈ wsX10_takeRead := List.mem_of_getElem? (i := 13) rfl
theorem kX10_takeRead_47 : Cond.fieldLink RX10 47 "BathingCourtModel" (TX10 23).2.1 (TX10 23).2.2.1 ∈ wsX10_takeRead := List.mem_of_getElem? (i := 14) rfl
theorem kX10_takeRead_22 : Cond.fieldLink RX10 22 "BathingCourtModel" (TX10 7).2.1 (TX10 7).2.2.1 ∈ wsX10_takeRead := List.mem_of_getElem? (i := 15) rfl
theorem kX10_takeRead_50 : Cond.fieldLink RX10 50 "BathingCourtModel" (TX10 24).2.1 (TX10 24).2.2.1 ∈ wsX10_takeRead := List.mem_of_getElem? (i := 16) rfl
theorem kX10_takeRead_25 : Cond.fieldLink RX10 25 "BathingCourtModel" (TX10 8).2.1 (TX10 8).2.2.1 ∈ wsX10_takeRead := List.mem_of_getElem? (i := 17) rfl
theorem kX10_takeRead_53 : Cond.fieldLink RX10 53 "BathingCourtModel" (TX10 25).2.1 (TX10 25).2.2.1 ∈ wsX10_takeRead := List.mem_of_getElem? (i := 18) rfl
theorem kX10_takeRead_13 : Cond.fieldLink RX10 13 "BathingCourtModel" (TX10 3).2.1 (TX10 3).2.2.1 ∈ wsX10_takeRead := List.mem_of_getElem? (i := 9) rfl
theorem kX10_takeRead_41 : Cond.fieldLink RX10 41 "BathingCourtModel" (TX10 20).2.1 (TX10 20).2.2.1 ∈ wsX10_takeRead := List.mem_of_getElem? (i := 10) rfl
theorem kX10_takeRead_7 : Cond.fieldLink RX10 7 "BathingCourtModel" (TX10 1).2.1 (TX10 1).2.2.1 ∈ wsX10_takeRead := List.mem_of_getElem? (i := 7) rfl
theorem kX10_takeRead_38 : Cond.fieldLink RX10 38 "BathingCourtModel" (TX10 18).2.1 (TX10 18).2.2.1 ∈ wsX10_takeRead := List.mem_of_getElem? (i := 8) rfl
def aX10_takeRead_167 (v146 : (Nat → Int32)) : Nat → (Nat → Int32)
  | 0 => v146
  | k167 + 1 => upd (aX10_takeRead_167 v146 k167) ((4 : Int32) + (nI k167)).toNatClampNeg (-1 : Int32)
def aX10_takeRead_146 (a9 : Nat → Int32) : Nat → (Nat → Int32)
  | 0 => a9
  | k146 + 1 => upd (aX10_takeRead_146 a9 k146) (nI k146).toNatClampNeg (0 : Int32)
def aX10_takeRead_82 (a5 a6 a7 a8 a22 a23 a24 a25 : Nat → Int32) : Nat → (Nat → Int32) × (Nat → Int32) × (Nat → Int32) × (Nat → Int32)
  | 0 => (a5, a6, a7, a8)
  | k82 + 1 => (upd ((aX10_takeRead_82 a5 a6 a7 a8 a22 a23 a24 a25 k82).1) (nI k82).toNatClampNeg (a22 (nI k82).toNatClampNeg), upd ((aX10_takeRead_82 a5 a6 a7 a8 a22 a23 a24 a25 k82).2.1) (nI k82).toNatClampNeg (a23 (nI k82).toNatClampNeg), upd ((aX10_takeRead_82 a5 a6 a7 a8 a22 a23 a24 a25 k82).2.2.1) (nI k82).toNatClampNeg (a24 (nI k82).toNatClampNeg), upd ((aX10_takeRead_82 a5 a6 a7 a8 a22 a23 a24 a25 k82).2.2.2) (nI k82).toNatClampNeg (a25 (nI k82).toNatClampNeg))
def aX10_takeRead_54 (a3 a20 : Nat → Int32) : Nat → (Nat → Int32)
  | 0 => a3
  | k54 + 1 => upd (aX10_takeRead_54 a3 a20 k54) (nI k54).toNatClampNeg (a20 (nI k54).toNatClampNeg)
def aX10_takeRead_26 (a1 a18 : Nat → Int32) : Nat → (Nat → Int32)
  | 0 => a1
  | k26 + 1 => upd (aX10_takeRead_26 a1 a18 k26) (nI k26).toNatClampNeg (a18 (nI k26).toNatClampNeg)
def sX10_takeRead_0 (a17 : Int32) : Int32 := a17
def sX10_takeRead_1 (a1 : Nat → Int32) (a17 : Int32) (a18 : Nat → Int32) : Nat → Int32 := (aX10_takeRead_26 a1 a18 a17.toNatClampNeg)
def sX10_takeRead_2 (a19 : Int32) : Int32 := a19
def sX10_takeRead_3 (a3 : Nat → Int32) (a19 : Int32) (a20 : Nat → Int32) : Nat → Int32 := (aX10_takeRead_54 a3 a20 a19.toNatClampNeg)
def sX10_takeRead_4 (a21 : Int32) : Int32 := a21
def sX10_takeRead_5 (a5 a6 a7 a8 : Nat → Int32) (a21 : Int32) (a22 a23 a24 a25 : Nat → Int32) : Nat → Int32 := (aX10_takeRead_82 a5 a6 a7 a8 a22 a23 a24 a25 a21.toNatClampNeg).1
def sX10_takeRead_6 (a5 a6 a7 a8 : Nat → Int32) (a21 : Int32) (a22 a23 a24 a25 : Nat → Int32) : Nat → Int32 := (aX10_takeRead_82 a5 a6 a7 a8 a22 a23 a24 a25 a21.toNatClampNeg).2.1
def sX10_takeRead_7 (a5 a6 a7 a8 : Nat → Int32) (a21 : Int32) (a22 a23 a24 a25 : Nat → Int32) : Nat → Int32 := (aX10_takeRead_82 a5 a6 a7 a8 a22 a23 a24 a25 a21.toNatClampNeg).2.2.1
def sX10_takeRead_8 (a5 a6 a7 a8 : Nat → Int32) (a21 : Int32) (a22 a23 a24 a25 : Nat → Int32) : Nat → Int32 := (aX10_takeRead_82 a5 a6 a7 a8 a22 a23 a24 a25 a21.toNatClampNeg).2.2.2
def sX10_takeRead_9 (a9 : Nat → Int32) : Nat → Int32 := (aX10_takeRead_167 (aX10_takeRead_146 a9 23) 4)
set_option maxRecDepth 100000 in
set_option maxHeartbeats 4000000 in
theorem c_X10_takeRead (l : Launch) (G : GT) (ad : Nat → Nat) (a0 : Int32) (a1 : Nat → Int32) (a2 : Int32) (a3 : Nat → Int32) (a4 : Int32) (a5 a6 a7 a8 a9 : Nat → Int32) (a10 : Int32) (a11 : Nat → Int32) (a12 a13 a14 a15 a16 a17 : Int32) (a18 : Nat → Int32) (a19 : Int32) (a20 : Nat → Int32) (a21 : Int32) (a22 a23 a24 a25 : Nat → Int32) (a26 : Int32) (a27 a28 a29 a30 : Nat → Int32) (a31 : Int32) (a32 a33 : Nat → Int32) (a34 : Int32) (a35 a36 a37 a38 : Nat → Int32) (u0 : 0 ≤ a17) (u1 : a17 ≤ 12) (k0 : 0 ≤ a19) (k1 : a19 ≤ 4) (q0 : 0 ≤ a21) (q1 : a21 ≤ 5) : Cv l G yX10_takeRead wsX10_takeRead (rmL 0) [.ref (ad 0)] (wX10 G ad a0 a1 a2 a3 a4 a5 a6 a7 a8 a9 a10 a11 a12 a13 a14 a15 a16 a17 a18 a19 a20 a21 a22 a23 a24 a25 a26 a27 a28 a29 a30 a31 a32 a33 a34 a35 a36 a37 a38) (wX10 G ad (sX10_takeRead_0 a17) (sX10_takeRead_1 a1 a17 a18) (sX10_takeRead_2 a19) (sX10_takeRead_3 a3 a19 a20) (sX10_takeRead_4 a21) (sX10_takeRead_5 a5 a6 a7 a8 a21 a22 a23 a24 a25) (sX10_takeRead_6 a5 a6 a7 a8 a21 a22 a23 a24 a25) (sX10_takeRead_7 a5 a6 a7 a8 a21 a22 a23 a24 a25) (sX10_takeRead_8 a5 a6 a7 a8 a21 a22 a23 a24 a25) (sX10_takeRead_9 a9) a10 a11 a12 a13 a14 a15 a16 a17 a18 a19 a20 a21 a22 a23 a24 a25 a26 a27 a28 a29 a30 a31 a32 a33 a34 a35 a36 a37 a38) := by
  refine cv_start (by decide) rfl rfl (Nat.le_of_ble_eq_true rfl) ?_
  intro p e s m args below meth c A X
  have e17 := clampInt u0
  have hN17 := clampLe (n := 12) (b := 12) rfl u0 u1
  have e19 := clampInt k0
  have hN19 := clampLe (n := 4) (b := 4) rfl k0 k1
  have e21 := clampInt q0
  have hN21 := clampLe (n := 5) (b := 5) rfl q0 q1
  refine s_perm (lv2 := [(0, .ref (ad 0))]) [0] rfl ?_
  refine s_aload_n X (pc := 0) (x := (ad 0)) 0 dX10_takeRead_0 rfl ?_
  refine s_aload_n X (pc := 1) (x := (ad 0)) 0 dX10_takeRead_1 rfl ?_
  refine s_get X (pc := 2) (v := .int a17) iX10_takeRead_X10 0 rfl rfl 17 (by decide) kX10_takeRead_134 rfl rfl dX10_takeRead_2 ?_
  refine s_put X (pc := 5) (v := .int a17) (w2 := wX10 G ad a17 a1 a2 a3 a4 a5 a6 a7 a8 a9 a10 a11 a12 a13 a14 a15 a16 a17 a18 a19 a20 a21 a22 a23 a24 a25 a26 a27 a28 a29 a30 a31 a32 a33 a34 a35 a36 a37 a38) iX10_takeRead_X10 0 rfl rfl 0 (by decide) kX10_takeRead_152 rfl tyX10 tyX10_ok nmX10 rfl (ty := .int) (by decide +kernel) rfl rfl (Nat.le_of_ble_eq_true rfl) rfl dX10_takeRead_5 ?_
  refine s_aload_n X (pc := 8) (x := (ad 0)) 0 dX10_takeRead_8 rfl ?_
  refine s_aload_n X (pc := 9) (x := (ad 0)) 0 dX10_takeRead_9 rfl ?_
  refine s_get X (pc := 10) (v := .int a19) iX10_takeRead_X10 0 rfl rfl 19 (by decide) kX10_takeRead_137 rfl rfl dX10_takeRead_10 ?_
  refine s_put X (pc := 13) (v := .int a19) (w2 := wX10 G ad a17 a1 a19 a3 a4 a5 a6 a7 a8 a9 a10 a11 a12 a13 a14 a15 a16 a17 a18 a19 a20 a21 a22 a23 a24 a25 a26 a27 a28 a29 a30 a31 a32 a33 a34 a35 a36 a37 a38) iX10_takeRead_X10 0 rfl rfl 2 (by decide) kX10_takeRead_87 rfl tyX10 tyX10_ok nmX10 rfl (ty := .int) (by decide +kernel) rfl rfl (Nat.le_of_ble_eq_true rfl) rfl dX10_takeRead_13 ?_
  refine s_aload_n X (pc := 16) (x := (ad 0)) 0 dX10_takeRead_16 rfl ?_
  refine s_aload_n X (pc := 17) (x := (ad 0)) 0 dX10_takeRead_17 rfl ?_
  refine s_get X (pc := 18) (v := .int a21) iX10_takeRead_X10 0 rfl rfl 21 (by decide) kX10_takeRead_140 rfl rfl dX10_takeRead_18 ?_
  refine s_put X (pc := 21) (v := .int a21) (w2 := wX10 G ad a17 a1 a19 a3 a21 a5 a6 a7 a8 a9 a10 a11 a12 a13 a14 a15 a16 a17 a18 a19 a20 a21 a22 a23 a24 a25 a26 a27 a28 a29 a30 a31 a32 a33 a34 a35 a36 a37 a38) iX10_takeRead_X10 0 rfl rfl 4 (by decide) kX10_takeRead_94 rfl tyX10 tyX10_ok nmX10 rfl (ty := .int) (by decide +kernel) rfl rfl (Nat.le_of_ble_eq_true rfl) rfl dX10_takeRead_21 ?_
  refine s_iconst X (pc := 24) (v := 0) dX10_takeRead_24 (by decide) ?_
  refine s_istore_n X (pc := 25) (i := 1) (lv2 := [(1, .int (0 : Int32)), (0, .ref (ad 0))]) dX10_takeRead_25 rfl (by decide) rfl ?_
  refine s_perm (lv2 := [(0, .ref (ad 0)), (1, .int (0 : Int32))]) [1, 0] rfl ?_
  have L26 : ∀ (n26 k26 : Nat), k26 + n26 = a17.toNatClampNeg → Sm p l e (rmL 0) s m args below meth c G A 2 0 0 (Qcv below G A args s (wX10 G ad (sX10_takeRead_0 a17) (sX10_takeRead_1 a1 a17 a18) (sX10_takeRead_2 a19) (sX10_takeRead_3 a3 a19 a20) (sX10_takeRead_4 a21) (sX10_takeRead_5 a5 a6 a7 a8 a21 a22 a23 a24 a25) (sX10_takeRead_6 a5 a6 a7 a8 a21 a22 a23 a24 a25) (sX10_takeRead_7 a5 a6 a7 a8 a21 a22 a23 a24 a25) (sX10_takeRead_8 a5 a6 a7 a8 a21 a22 a23 a24 a25) (sX10_takeRead_9 a9) a10 a11 a12 a13 a14 a15 a16 a17 a18 a19 a20 a21 a22 a23 a24 a25 a26 a27 a28 a29 a30 a31 a32 a33 a34 a35 a36 a37 a38)) 26 [(0, .ref (ad 0)), (1, .int (nI k26))] [] (wX10 G ad a17 (aX10_takeRead_26 a1 a18 k26) a19 a3 a21 a5 a6 a7 a8 a9 a10 a11 a12 a13 a14 a15 a16 a17 a18 a19 a20 a21 a22 a23 a24 a25 a26 a27 a28 a29 a30 a31 a32 a33 a34 a35 a36 a37 a38) := by
    intro n26
    induction n26 with
    | zero =>
      intro k26 hk26
      have hK26 : k26 = a17.toNatClampNeg := by omega
      rw [hK26]
      have tk26 : (nI a17.toNatClampNeg).toInt = ((a17.toNatClampNeg : Nat) : Int) := nI_toInt (by omega)
      have eN26 : (a17).toInt = ((a17.toNatClampNeg : Nat) : Int) := e17
      refine s_iload_n X (pc := 26) (x := nI a17.toNatClampNeg) 1 dX10_takeRead_26 rfl ?_
      refine s_aload_n X (pc := 27) (x := (ad 0)) 0 dX10_takeRead_27 rfl ?_
      refine s_get X (pc := 28) (v := .int a17) iX10_takeRead_X10 0 rfl rfl 0 (by decide) kX10_takeRead_152 rfl rfl dX10_takeRead_28 ?_
      refine s_icmp_ge X (pc := 31) (tgt := 52) dX10_takeRead_31 (by decide) (fun c31 => ?_) (fun c31 => ?_)
      ·
        refine s_iconst X (pc := 52) (v := 0) dX10_takeRead_52 (by decide) ?_
        refine s_istore_n X (pc := 53) (i := 1) (lv2 := [(1, .int (0 : Int32)), (0, .ref (ad 0))]) dX10_takeRead_53 rfl (by decide) rfl ?_
        refine s_perm (lv2 := [(0, .ref (ad 0)), (1, .int (0 : Int32))]) [1, 0] rfl ?_
        have L54 : ∀ (n54 k54 : Nat), k54 + n54 = a19.toNatClampNeg → Sm p l e (rmL 0) s m args below meth c G A 2 0 0 (Qcv below G A args s (wX10 G ad (sX10_takeRead_0 a17) (sX10_takeRead_1 a1 a17 a18) (sX10_takeRead_2 a19) (sX10_takeRead_3 a3 a19 a20) (sX10_takeRead_4 a21) (sX10_takeRead_5 a5 a6 a7 a8 a21 a22 a23 a24 a25) (sX10_takeRead_6 a5 a6 a7 a8 a21 a22 a23 a24 a25) (sX10_takeRead_7 a5 a6 a7 a8 a21 a22 a23 a24 a25) (sX10_takeRead_8 a5 a6 a7 a8 a21 a22 a23 a24 a25) (sX10_takeRead_9 a9) a10 a11 a12 a13 a14 a15 a16 a17 a18 a19 a20 a21 a22 a23 a24 a25 a26 a27 a28 a29 a30 a31 a32 a33 a34 a35 a36 a37 a38)) 54 [(0, .ref (ad 0)), (1, .int (nI k54))] [] (wX10 G ad a17 (aX10_takeRead_26 a1 a18 a17.toNatClampNeg) a19 (aX10_takeRead_54 a3 a20 k54) a21 a5 a6 a7 a8 a9 a10 a11 a12 a13 a14 a15 a16 a17 a18 a19 a20 a21 a22 a23 a24 a25 a26 a27 a28 a29 a30 a31 a32 a33 a34 a35 a36 a37 a38) := by
          intro n54
          induction n54 with
          | zero =>
            intro k54 hk54
            have hK54 : k54 = a19.toNatClampNeg := by omega
            rw [hK54]
            have tk54 : (nI a19.toNatClampNeg).toInt = ((a19.toNatClampNeg : Nat) : Int) := nI_toInt (by omega)
            have eN54 : (a19).toInt = ((a19.toNatClampNeg : Nat) : Int) := e19
            refine s_iload_n X (pc := 54) (x := nI a19.toNatClampNeg) 1 dX10_takeRead_54 rfl ?_
            refine s_aload_n X (pc := 55) (x := (ad 0)) 0 dX10_takeRead_55 rfl ?_
            refine s_get X (pc := 56) (v := .int a19) iX10_takeRead_X10 0 rfl rfl 2 (by decide) kX10_takeRead_87 rfl rfl dX10_takeRead_56 ?_
            refine s_icmp_ge X (pc := 59) (tgt := 80) dX10_takeRead_59 (by decide) (fun c59 => ?_) (fun c59 => ?_)
            ·
              refine s_iconst X (pc := 80) (v := 0) dX10_takeRead_80 (by decide) ?_
              refine s_istore_n X (pc := 81) (i := 1) (lv2 := [(1, .int (0 : Int32)), (0, .ref (ad 0))]) dX10_takeRead_81 rfl (by decide) rfl ?_
              refine s_perm (lv2 := [(0, .ref (ad 0)), (1, .int (0 : Int32))]) [1, 0] rfl ?_
              have L82 : ∀ (n82 k82 : Nat), k82 + n82 = a21.toNatClampNeg → Sm p l e (rmL 0) s m args below meth c G A 2 0 0 (Qcv below G A args s (wX10 G ad (sX10_takeRead_0 a17) (sX10_takeRead_1 a1 a17 a18) (sX10_takeRead_2 a19) (sX10_takeRead_3 a3 a19 a20) (sX10_takeRead_4 a21) (sX10_takeRead_5 a5 a6 a7 a8 a21 a22 a23 a24 a25) (sX10_takeRead_6 a5 a6 a7 a8 a21 a22 a23 a24 a25) (sX10_takeRead_7 a5 a6 a7 a8 a21 a22 a23 a24 a25) (sX10_takeRead_8 a5 a6 a7 a8 a21 a22 a23 a24 a25) (sX10_takeRead_9 a9) a10 a11 a12 a13 a14 a15 a16 a17 a18 a19 a20 a21 a22 a23 a24 a25 a26 a27 a28 a29 a30 a31 a32 a33 a34 a35 a36 a37 a38)) 82 [(0, .ref (ad 0)), (1, .int (nI k82))] [] (wX10 G ad a17 (aX10_takeRead_26 a1 a18 a17.toNatClampNeg) a19 (aX10_takeRead_54 a3 a20 a19.toNatClampNeg) a21 ((aX10_takeRead_82 a5 a6 a7 a8 a22 a23 a24 a25 k82).1) ((aX10_takeRead_82 a5 a6 a7 a8 a22 a23 a24 a25 k82).2.1) ((aX10_takeRead_82 a5 a6 a7 a8 a22 a23 a24 a25 k82).2.2.1) ((aX10_takeRead_82 a5 a6 a7 a8 a22 a23 a24 a25 k82).2.2.2) a9 a10 a11 a12 a13 a14 a15 a16 a17 a18 a19 a20 a21 a22 a23 a24 a25 a26 a27 a28 a29 a30 a31 a32 a33 a34 a35 a36 a37 a38) := by
                intro n82
                induction n82 with
                | zero =>
                  intro k82 hk82
                  have hK82 : k82 = a21.toNatClampNeg := by omega
                  rw [hK82]
                  have tk82 : (nI a21.toNatClampNeg).toInt = ((a21.toNatClampNeg : Nat) : Int) := nI_toInt (by omega)
                  have eN82 : (a21).toInt = ((a21.toNatClampNeg : Nat) : Int) := e21
                  refine s_iload_n X (pc := 82) (x := nI a21.toNatClampNeg) 1 dX10_takeRead_82 rfl ?_
                  refine s_aload_n X (pc := 83) (x := (ad 0)) 0 dX10_takeRead_83 rfl ?_
                  refine s_get X (pc := 84) (v := .int a21) iX10_takeRead_X10 0 rfl rfl 4 (by decide) kX10_takeRead_94 rfl rfl dX10_takeRead_84 ?_
                  refine s_icmp_ge X (pc := 87) (tgt := 144) dX10_takeRead_87 (by decide) (fun c87 => ?_) (fun c87 => ?_)
                  ·
                    refine s_iconst X (pc := 144) (v := 0) dX10_takeRead_144 (by decide) ?_
                    refine s_istore_n X (pc := 145) (i := 1) (lv2 := [(1, .int (0 : Int32)), (0, .ref (ad 0))]) dX10_takeRead_145 rfl (by decide) rfl ?_
                    refine s_perm (lv2 := [(0, .ref (ad 0)), (1, .int (0 : Int32))]) [1, 0] rfl ?_
                    have L146 : ∀ (n146 k146 : Nat), k146 + n146 = 23 → Sm p l e (rmL 0) s m args below meth c G A 2 0 0 (Qcv below G A args s (wX10 G ad (sX10_takeRead_0 a17) (sX10_takeRead_1 a1 a17 a18) (sX10_takeRead_2 a19) (sX10_takeRead_3 a3 a19 a20) (sX10_takeRead_4 a21) (sX10_takeRead_5 a5 a6 a7 a8 a21 a22 a23 a24 a25) (sX10_takeRead_6 a5 a6 a7 a8 a21 a22 a23 a24 a25) (sX10_takeRead_7 a5 a6 a7 a8 a21 a22 a23 a24 a25) (sX10_takeRead_8 a5 a6 a7 a8 a21 a22 a23 a24 a25) (sX10_takeRead_9 a9) a10 a11 a12 a13 a14 a15 a16 a17 a18 a19 a20 a21 a22 a23 a24 a25 a26 a27 a28 a29 a30 a31 a32 a33 a34 a35 a36 a37 a38)) 146 [(0, .ref (ad 0)), (1, .int (nI k146))] [] (wX10 G ad a17 (aX10_takeRead_26 a1 a18 a17.toNatClampNeg) a19 (aX10_takeRead_54 a3 a20 a19.toNatClampNeg) a21 ((aX10_takeRead_82 a5 a6 a7 a8 a22 a23 a24 a25 a21.toNatClampNeg).1) ((aX10_takeRead_82 a5 a6 a7 a8 a22 a23 a24 a25 a21.toNatClampNeg).2.1) ((aX10_takeRead_82 a5 a6 a7 a8 a22 a23 a24 a25 a21.toNatClampNeg).2.2.1) ((aX10_takeRead_82 a5 a6 a7 a8 a22 a23 a24 a25 a21.toNatClampNeg).2.2.2) (aX10_takeRead_146 a9 k146) a10 a11 a12 a13 a14 a15 a16 a17 a18 a19 a20 a21 a22 a23 a24 a25 a26 a27 a28 a29 a30 a31 a32 a33 a34 a35 a36 a37 a38) := by
                      intro n146
                      induction n146 with
                      | zero =>
                        intro k146 hk146
                        have hK146 : k146 = 23 := by omega
                        rw [hK146]
                        have tk146 : (nI 23).toInt = ((23 : Nat) : Int) := nI_toInt (by omega)
                        have eN146 : ((23 : Int32)).toInt = ((23 : Nat) : Int) := rfl
                        refine s_iload_n X (pc := 146) (x := nI 23) 1 dX10_takeRead_146 rfl ?_
                        refine s_bipush X (pc := 147) (v := 23) dX10_takeRead_147 (by decide) ?_
                        refine s_icmp_ge X (pc := 149) (tgt := 165) dX10_takeRead_149 (by decide) (fun c149 => ?_) (fun c149 => ?_)
                        ·
                          refine s_iconst X (pc := 165) (v := 0) dX10_takeRead_165 (by decide) ?_
                          refine s_istore_n X (pc := 166) (i := 1) (lv2 := [(1, .int (0 : Int32)), (0, .ref (ad 0))]) dX10_takeRead_166 rfl (by decide) rfl ?_
                          refine s_perm (lv2 := [(0, .ref (ad 0)), (1, .int (0 : Int32))]) [1, 0] rfl ?_
                          have L167 : ∀ (n167 k167 : Nat), k167 + n167 = 4 → Sm p l e (rmL 0) s m args below meth c G A 2 0 0 (Qcv below G A args s (wX10 G ad (sX10_takeRead_0 a17) (sX10_takeRead_1 a1 a17 a18) (sX10_takeRead_2 a19) (sX10_takeRead_3 a3 a19 a20) (sX10_takeRead_4 a21) (sX10_takeRead_5 a5 a6 a7 a8 a21 a22 a23 a24 a25) (sX10_takeRead_6 a5 a6 a7 a8 a21 a22 a23 a24 a25) (sX10_takeRead_7 a5 a6 a7 a8 a21 a22 a23 a24 a25) (sX10_takeRead_8 a5 a6 a7 a8 a21 a22 a23 a24 a25) (sX10_takeRead_9 a9) a10 a11 a12 a13 a14 a15 a16 a17 a18 a19 a20 a21 a22 a23 a24 a25 a26 a27 a28 a29 a30 a31 a32 a33 a34 a35 a36 a37 a38)) 167 [(0, .ref (ad 0)), (1, .int (nI k167))] [] (wX10 G ad a17 (aX10_takeRead_26 a1 a18 a17.toNatClampNeg) a19 (aX10_takeRead_54 a3 a20 a19.toNatClampNeg) a21 ((aX10_takeRead_82 a5 a6 a7 a8 a22 a23 a24 a25 a21.toNatClampNeg).1) ((aX10_takeRead_82 a5 a6 a7 a8 a22 a23 a24 a25 a21.toNatClampNeg).2.1) ((aX10_takeRead_82 a5 a6 a7 a8 a22 a23 a24 a25 a21.toNatClampNeg).2.2.1) ((aX10_takeRead_82 a5 a6 a7 a8 a22 a23 a24 a25 a21.toNatClampNeg).2.2.2) (aX10_takeRead_167 (aX10_takeRead_146 a9 23) k167) a10 a11 a12 a13 a14 a15 a16 a17 a18 a19 a20 a21 a22 a23 a24 a25 a26 a27 a28 a29 a30 a31 a32 a33 a34 a35 a36 a37 a38) := by
                            intro n167
                            induction n167 with
                            | zero =>
                              intro k167 hk167
                              have hK167 : k167 = 4 := by omega
                              rw [hK167]
                              have tk167 : (nI 4).toInt = ((4 : Nat) : Int) := nI_toInt (by omega)
                              have eN167 : ((4 : Int32)).toInt = ((4 : Nat) : Int) := rfl
                              refine s_iload_n X (pc := 167) (x := nI 4) 1 dX10_takeRead_167 rfl ?_
                              refine s_iconst X (pc := 168) (v := 4) dX10_takeRead_168 (by decide) ?_
                              refine s_icmp_ge X (pc := 169) (tgt := 187) dX10_takeRead_169 (by decide) (fun c169 => ?_) (fun c169 => ?_)
                              ·
                                exact s_vret X (pc := 187) dX10_takeRead_187 (by rw [show sX10_takeRead_0 a17 = a17 from rfl, show sX10_takeRead_1 a1 a17 a18 = (aX10_takeRead_26 a1 a18 a17.toNatClampNeg) from rfl, show sX10_takeRead_2 a19 = a19 from rfl, show sX10_takeRead_3 a3 a19 a20 = (aX10_takeRead_54 a3 a20 a19.toNatClampNeg) from rfl, show sX10_takeRead_4 a21 = a21 from rfl, show sX10_takeRead_5 a5 a6 a7 a8 a21 a22 a23 a24 a25 = (aX10_takeRead_82 a5 a6 a7 a8 a22 a23 a24 a25 a21.toNatClampNeg).1 from rfl, show sX10_takeRead_6 a5 a6 a7 a8 a21 a22 a23 a24 a25 = (aX10_takeRead_82 a5 a6 a7 a8 a22 a23 a24 a25 a21.toNatClampNeg).2.1 from rfl, show sX10_takeRead_7 a5 a6 a7 a8 a21 a22 a23 a24 a25 = (aX10_takeRead_82 a5 a6 a7 a8 a22 a23 a24 a25 a21.toNatClampNeg).2.2.1 from rfl, show sX10_takeRead_8 a5 a6 a7 a8 a21 a22 a23 a24 a25 = (aX10_takeRead_82 a5 a6 a7 a8 a22 a23 a24 a25 a21.toNatClampNeg).2.2.2 from rfl, show sX10_takeRead_9 a9 = (aX10_takeRead_167 (aX10_takeRead_146 a9 23) 4) from rfl])
                              ·
                                exact absurd ((t_le eN167 tk167).mpr (by omega)) c169
                            | succ n167 ih167 =>
                              intro k167 hk167
                              have hlt167 : k167 < 4 := by omega
                              have tk167 : (nI k167).toInt = ((k167 : Nat) : Int) := nI_toInt (by omega)
                              have eN167 : ((4 : Int32)).toInt = ((4 : Nat) : Int) := rfl
                              have kb0 : (0 : Int32) ≤ nI k167 := (t_le (x := 0) rfl tk167).mpr (by omega)
                              have kb1 : nI k167 < (4 : Int32) := (t_lt (y := 4) tk167 rfl).mpr (by omega)
                              refine s_iload_n X (pc := 167) (x := nI k167) 1 dX10_takeRead_167 rfl ?_
                              refine s_iconst X (pc := 168) (v := 4) dX10_takeRead_168 (by decide) ?_
                              refine s_icmp_ge X (pc := 169) (tgt := 187) dX10_takeRead_169 (by decide) (fun c169 => ?_) (fun c169 => ?_)
                              ·
                                exact absurd ((t_le eN167 tk167).mp c169) (by omega)
                              ·
                                refine s_aload_n X (pc := 172) (x := (ad 0)) 0 dX10_takeRead_172 rfl ?_
                                refine s_get X (pc := 173) (v := .ref (ad 10)) iX10_takeRead_X10 0 rfl rfl 9 (by decide) kX10_takeRead_28 rfl rfl dX10_takeRead_173 ?_
                                refine s_iconst X (pc := 176) (v := 4) dX10_takeRead_176 (by decide) ?_
                                refine s_iload_n X (pc := 177) (x := nI k167) 1 dX10_takeRead_177 rfl ?_
                                refine s_iadd X (pc := 178) dX10_takeRead_178 ?_
                                refine s_iconst X (pc := 179) (v := -1) dX10_takeRead_179 (by decide) ?_
                                refine s_iast X (pc := 180) (n := 23) (f := (aX10_takeRead_167 (aX10_takeRead_146 a9 23) k167)) (w2 := wX10 G ad a17 (aX10_takeRead_26 a1 a18 a17.toNatClampNeg) a19 (aX10_takeRead_54 a3 a20 a19.toNatClampNeg) a21 ((aX10_takeRead_82 a5 a6 a7 a8 a22 a23 a24 a25 a21.toNatClampNeg).1) ((aX10_takeRead_82 a5 a6 a7 a8 a22 a23 a24 a25 a21.toNatClampNeg).2.1) ((aX10_takeRead_82 a5 a6 a7 a8 a22 a23 a24 a25 a21.toNatClampNeg).2.2.1) ((aX10_takeRead_82 a5 a6 a7 a8 a22 a23 a24 a25 a21.toNatClampNeg).2.2.2) (upd (aX10_takeRead_167 (aX10_takeRead_146 a9 23) k167) ((4 : Int32) + (nI k167)).toNatClampNeg (-1 : Int32)) a10 a11 a12 a13 a14 a15 a16 a17 a18 a19 a20 a21 a22 a23 a24 a25 a26 a27 a28 a29 a30 a31 a32 a33 a34 a35 a36 a37 a38) 7 rfl (by first | with_reducible assumption | exact vin (b := 23) rfl (by grind) (by grind)) rfl dX10_takeRead_180 ?_
                                refine s_iinc X (pc := 181) (v := nI (k167 + 1)) (lv2 := [(1, .int (nI (k167 + 1))), (0, .ref (ad 0))]) 1 dX10_takeRead_181 rfl (nI_1 _) (by decide) rfl ?_
                                refine s_goto X (pc := 184) (tgt := 167) dX10_takeRead_184 (by decide) ?_
                                refine s_perm (lv2 := [(0, .ref (ad 0)), (1, .int (nI (k167 + 1)))]) [1, 0] rfl ?_
                                have hb167 : (aX10_takeRead_167 (aX10_takeRead_146 a9 23) (k167 + 1)) = upd (aX10_takeRead_167 (aX10_takeRead_146 a9 23) k167) ((4 : Int32) + (nI k167)).toNatClampNeg (-1 : Int32) := rfl
                                refine s_cast (lv2 := [(0, .ref (ad 0)), (1, .int (nI (k167 + 1)))]) (w2 := wX10 G ad a17 (aX10_takeRead_26 a1 a18 a17.toNatClampNeg) a19 (aX10_takeRead_54 a3 a20 a19.toNatClampNeg) a21 ((aX10_takeRead_82 a5 a6 a7 a8 a22 a23 a24 a25 a21.toNatClampNeg).1) ((aX10_takeRead_82 a5 a6 a7 a8 a22 a23 a24 a25 a21.toNatClampNeg).2.1) ((aX10_takeRead_82 a5 a6 a7 a8 a22 a23 a24 a25 a21.toNatClampNeg).2.2.1) ((aX10_takeRead_82 a5 a6 a7 a8 a22 a23 a24 a25 a21.toNatClampNeg).2.2.2) (aX10_takeRead_167 (aX10_takeRead_146 a9 23) (k167 + 1)) a10 a11 a12 a13 a14 a15 a16 a17 a18 a19 a20 a21 a22 a23 a24 a25 a26 a27 a28 a29 a30 a31 a32 a33 a34 a35 a36 a37 a38) (by first | (rw [hb167]; done) | rfl) (by first | (rw [hb167]; done) | rfl) ?_
                                exact ih167 (k167 + 1) (by omega)
                          exact L167 4 0 (Nat.zero_add _)
                        ·
                          exact absurd ((t_le eN146 tk146).mpr (by omega)) c149
                      | succ n146 ih146 =>
                        intro k146 hk146
                        have hlt146 : k146 < 23 := by omega
                        have tk146 : (nI k146).toInt = ((k146 : Nat) : Int) := nI_toInt (by omega)
                        have eN146 : ((23 : Int32)).toInt = ((23 : Nat) : Int) := rfl
                        refine s_iload_n X (pc := 146) (x := nI k146) 1 dX10_takeRead_146 rfl ?_
                        refine s_bipush X (pc := 147) (v := 23) dX10_takeRead_147 (by decide) ?_
                        refine s_icmp_ge X (pc := 149) (tgt := 165) dX10_takeRead_149 (by decide) (fun c149 => ?_) (fun c149 => ?_)
                        ·
                          exact absurd ((t_le eN146 tk146).mp c149) (by omega)
                        ·
                          refine s_aload_n X (pc := 152) (x := (ad 0)) 0 dX10_takeRead_152 rfl ?_
                          refine s_get X (pc := 153) (v := .ref (ad 10)) iX10_takeRead_X10 0 rfl rfl 9 (by decide) kX10_takeRead_28 rfl rfl dX10_takeRead_153 ?_
                          refine s_iload_n X (pc := 156) (x := nI k146) 1 dX10_takeRead_156 rfl ?_
                          refine s_iconst X (pc := 157) (v := 0) dX10_takeRead_157 (by decide) ?_
                          refine s_iast X (pc := 158) (n := 23) (f := (aX10_takeRead_146 a9 k146)) (w2 := wX10 G ad a17 (aX10_takeRead_26 a1 a18 a17.toNatClampNeg) a19 (aX10_takeRead_54 a3 a20 a19.toNatClampNeg) a21 ((aX10_takeRead_82 a5 a6 a7 a8 a22 a23 a24 a25 a21.toNatClampNeg).1) ((aX10_takeRead_82 a5 a6 a7 a8 a22 a23 a24 a25 a21.toNatClampNeg).2.1) ((aX10_takeRead_82 a5 a6 a7 a8 a22 a23 a24 a25 a21.toNatClampNeg).2.2.1) ((aX10_takeRead_82 a5 a6 a7 a8 a22 a23 a24 a25 a21.toNatClampNeg).2.2.2) (upd (aX10_takeRead_146 a9 k146) (nI k146).toNatClampNeg (0 : Int32)) a10 a11 a12 a13 a14 a15 a16 a17 a18 a19 a20 a21 a22 a23 a24 a25 a26 a27 a28 a29 a30 a31 a32 a33 a34 a35 a36 a37 a38) 7 rfl (vp_in_nI (by omega) (by decide)) rfl dX10_takeRead_158 ?_
                          refine s_iinc X (pc := 159) (v := nI (k146 + 1)) (lv2 := [(1, .int (nI (k146 + 1))), (0, .ref (ad 0))]) 1 dX10_takeRead_159 rfl (nI_1 _) (by decide) rfl ?_
                          refine s_goto X (pc := 162) (tgt := 146) dX10_takeRead_162 (by decide) ?_
                          refine s_perm (lv2 := [(0, .ref (ad 0)), (1, .int (nI (k146 + 1)))]) [1, 0] rfl ?_
                          have hb146 : (aX10_takeRead_146 a9 (k146 + 1)) = upd (aX10_takeRead_146 a9 k146) (nI k146).toNatClampNeg (0 : Int32) := rfl
                          refine s_cast (lv2 := [(0, .ref (ad 0)), (1, .int (nI (k146 + 1)))]) (w2 := wX10 G ad a17 (aX10_takeRead_26 a1 a18 a17.toNatClampNeg) a19 (aX10_takeRead_54 a3 a20 a19.toNatClampNeg) a21 ((aX10_takeRead_82 a5 a6 a7 a8 a22 a23 a24 a25 a21.toNatClampNeg).1) ((aX10_takeRead_82 a5 a6 a7 a8 a22 a23 a24 a25 a21.toNatClampNeg).2.1) ((aX10_takeRead_82 a5 a6 a7 a8 a22 a23 a24 a25 a21.toNatClampNeg).2.2.1) ((aX10_takeRead_82 a5 a6 a7 a8 a22 a23 a24 a25 a21.toNatClampNeg).2.2.2) (aX10_takeRead_146 a9 (k146 + 1)) a10 a11 a12 a13 a14 a15 a16 a17 a18 a19 a20 a21 a22 a23 a24 a25 a26 a27 a28 a29 a30 a31 a32 a33 a34 a35 a36 a37 a38) (by first | (rw [hb146]; done) | rfl) (by first | (rw [hb146]; done) | rfl) ?_
                          exact ih146 (k146 + 1) (by omega)
                    exact L146 23 0 (Nat.zero_add _)
                  ·
                    exact absurd ((t_le eN82 tk82).mpr (by omega)) c87
                | succ n82 ih82 =>
                  intro k82 hk82
                  have hlt82 : k82 < a21.toNatClampNeg := by omega
                  have tk82 : (nI k82).toInt = ((k82 : Nat) : Int) := nI_toInt (by omega)
                  have eN82 : (a21).toInt = ((a21.toNatClampNeg : Nat) : Int) := e21
                  refine s_iload_n X (pc := 82) (x := nI k82) 1 dX10_takeRead_82 rfl ?_
                  refine s_aload_n X (pc := 83) (x := (ad 0)) 0 dX10_takeRead_83 rfl ?_
                  refine s_get X (pc := 84) (v := .int a21) iX10_takeRead_X10 0 rfl rfl 4 (by decide) kX10_takeRead_94 rfl rfl dX10_takeRead_84 ?_
                  refine s_icmp_ge X (pc := 87) (tgt := 144) dX10_takeRead_87 (by decide) (fun c87 => ?_) (fun c87 => ?_)
                  ·
                    exact absurd ((t_le eN82 tk82).mp c87) (by omega)
                  ·
                    refine s_aload_n X (pc := 90) (x := (ad 0)) 0 dX10_takeRead_90 rfl ?_
                    refine s_get X (pc := 91) (v := .ref (ad 6)) iX10_takeRead_X10 0 rfl rfl 5 (by decide) kX10_takeRead_16 rfl rfl dX10_takeRead_91 ?_
                    refine s_iload_n X (pc := 94) (x := nI k82) 1 dX10_takeRead_94 rfl ?_
                    refine s_aload_n X (pc := 95) (x := (ad 0)) 0 dX10_takeRead_95 rfl ?_
                    refine s_get X (pc := 96) (v := .ref (ad 23)) iX10_takeRead_X10 0 rfl rfl 22 (by decide) kX10_takeRead_44 rfl rfl dX10_takeRead_96 ?_
                    refine s_iload_n X (pc := 99) (x := nI k82) 1 dX10_takeRead_99 rfl ?_
                    refine s_iald X (pc := 100) (n := 5) (f := a22) 11 rfl (vp_in_nI (by omega) (by decide)) dX10_takeRead_100 ?_
                    refine s_iast X (pc := 101) (n := 5) (f := (aX10_takeRead_82 a5 a6 a7 a8 a22 a23 a24 a25 k82).1) (w2 := wX10 G ad a17 (aX10_takeRead_26 a1 a18 a17.toNatClampNeg) a19 (aX10_takeRead_54 a3 a20 a19.toNatClampNeg) a21 (upd ((aX10_takeRead_82 a5 a6 a7 a8 a22 a23 a24 a25 k82).1) (nI k82).toNatClampNeg (a22 (nI k82).toNatClampNeg)) ((aX10_takeRead_82 a5 a6 a7 a8 a22 a23 a24 a25 k82).2.1) ((aX10_takeRead_82 a5 a6 a7 a8 a22 a23 a24 a25 k82).2.2.1) ((aX10_takeRead_82 a5 a6 a7 a8 a22 a23 a24 a25 k82).2.2.2) a9 a10 a11 a12 a13 a14 a15 a16 a17 a18 a19 a20 a21 a22 a23 a24 a25 a26 a27 a28 a29 a30 a31 a32 a33 a34 a35 a36 a37 a38) 3 rfl (vp_in_nI (by omega) (by decide)) rfl dX10_takeRead_101 ?_
                    refine s_aload_n X (pc := 102) (x := (ad 0)) 0 dX10_takeRead_102 rfl ?_
                    refine s_get X (pc := 103) (v := .ref (ad 7)) iX10_takeRead_X10 0 rfl rfl 6 (by decide) kX10_takeRead_19 rfl rfl dX10_takeRead_103 ?_
                    refine s_iload_n X (pc := 106) (x := nI k82) 1 dX10_takeRead_106 rfl ?_
                    refine s_aload_n X (pc := 107) (x := (ad 0)) 0 dX10_takeRead_107 rfl ?_
                    refine s_get X (pc := 108) (v := .ref (ad 24)) iX10_takeRead_X10 0 rfl rfl 23 (by decide) kX10_takeRead_47 rfl rfl dX10_takeRead_108 ?_
                    refine s_iload_n X (pc := 111) (x := nI k82) 1 dX10_takeRead_111 rfl ?_
                    refine s_iald X (pc := 112) (n := 5) (f := a23) 12 rfl (vp_in_nI (by omega) (by decide)) dX10_takeRead_112 ?_
                    refine s_iast X (pc := 113) (n := 5) (f := (aX10_takeRead_82 a5 a6 a7 a8 a22 a23 a24 a25 k82).2.1) (w2 := wX10 G ad a17 (aX10_takeRead_26 a1 a18 a17.toNatClampNeg) a19 (aX10_takeRead_54 a3 a20 a19.toNatClampNeg) a21 (upd ((aX10_takeRead_82 a5 a6 a7 a8 a22 a23 a24 a25 k82).1) (nI k82).toNatClampNeg (a22 (nI k82).toNatClampNeg)) (upd ((aX10_takeRead_82 a5 a6 a7 a8 a22 a23 a24 a25 k82).2.1) (nI k82).toNatClampNeg (a23 (nI k82).toNatClampNeg)) ((aX10_takeRead_82 a5 a6 a7 a8 a22 a23 a24 a25 k82).2.2.1) ((aX10_takeRead_82 a5 a6 a7 a8 a22 a23 a24 a25 k82).2.2.2) a9 a10 a11 a12 a13 a14 a15 a16 a17 a18 a19 a20 a21 a22 a23 a24 a25 a26 a27 a28 a29 a30 a31 a32 a33 a34 a35 a36 a37 a38) 4 rfl (vp_in_nI (by omega) (by decide)) rfl dX10_takeRead_113 ?_
                    refine s_aload_n X (pc := 114) (x := (ad 0)) 0 dX10_takeRead_114 rfl ?_
                    refine s_get X (pc := 115) (v := .ref (ad 8)) iX10_takeRead_X10 0 rfl rfl 7 (by decide) kX10_takeRead_22 rfl rfl dX10_takeRead_115 ?_
                    refine s_iload_n X (pc := 118) (x := nI k82) 1 dX10_takeRead_118 rfl ?_
                    refine s_aload_n X (pc := 119) (x := (ad 0)) 0 dX10_takeRead_119 rfl ?_
                    refine s_get X (pc := 120) (v := .ref (ad 25)) iX10_takeRead_X10 0 rfl rfl 24 (by decide) kX10_takeRead_50 rfl rfl dX10_takeRead_120 ?_
                    refine s_iload_n X (pc := 123) (x := nI k82) 1 dX10_takeRead_123 rfl ?_
                    refine s_iald X (pc := 124) (n := 5) (f := a24) 13 rfl (vp_in_nI (by omega) (by decide)) dX10_takeRead_124 ?_
                    refine s_iast X (pc := 125) (n := 5) (f := (aX10_takeRead_82 a5 a6 a7 a8 a22 a23 a24 a25 k82).2.2.1) (w2 := wX10 G ad a17 (aX10_takeRead_26 a1 a18 a17.toNatClampNeg) a19 (aX10_takeRead_54 a3 a20 a19.toNatClampNeg) a21 (upd ((aX10_takeRead_82 a5 a6 a7 a8 a22 a23 a24 a25 k82).1) (nI k82).toNatClampNeg (a22 (nI k82).toNatClampNeg)) (upd ((aX10_takeRead_82 a5 a6 a7 a8 a22 a23 a24 a25 k82).2.1) (nI k82).toNatClampNeg (a23 (nI k82).toNatClampNeg)) (upd ((aX10_takeRead_82 a5 a6 a7 a8 a22 a23 a24 a25 k82).2.2.1) (nI k82).toNatClampNeg (a24 (nI k82).toNatClampNeg)) ((aX10_takeRead_82 a5 a6 a7 a8 a22 a23 a24 a25 k82).2.2.2) a9 a10 a11 a12 a13 a14 a15 a16 a17 a18 a19 a20 a21 a22 a23 a24 a25 a26 a27 a28 a29 a30 a31 a32 a33 a34 a35 a36 a37 a38) 5 rfl (vp_in_nI (by omega) (by decide)) rfl dX10_takeRead_125 ?_
                    refine s_aload_n X (pc := 126) (x := (ad 0)) 0 dX10_takeRead_126 rfl ?_
                    refine s_get X (pc := 127) (v := .ref (ad 9)) iX10_takeRead_X10 0 rfl rfl 8 (by decide) kX10_takeRead_25 rfl rfl dX10_takeRead_127 ?_
                    refine s_iload_n X (pc := 130) (x := nI k82) 1 dX10_takeRead_130 rfl ?_
                    refine s_aload_n X (pc := 131) (x := (ad 0)) 0 dX10_takeRead_131 rfl ?_
                    refine s_get X (pc := 132) (v := .ref (ad 26)) iX10_takeRead_X10 0 rfl rfl 25 (by decide) kX10_takeRead_53 rfl rfl dX10_takeRead_132 ?_
                    refine s_iload_n X (pc := 135) (x := nI k82) 1 dX10_takeRead_135 rfl ?_
                    refine s_iald X (pc := 136) (n := 5) (f := a25) 14 rfl (vp_in_nI (by omega) (by decide)) dX10_takeRead_136 ?_
                    refine s_iast X (pc := 137) (n := 5) (f := (aX10_takeRead_82 a5 a6 a7 a8 a22 a23 a24 a25 k82).2.2.2) (w2 := wX10 G ad a17 (aX10_takeRead_26 a1 a18 a17.toNatClampNeg) a19 (aX10_takeRead_54 a3 a20 a19.toNatClampNeg) a21 (upd ((aX10_takeRead_82 a5 a6 a7 a8 a22 a23 a24 a25 k82).1) (nI k82).toNatClampNeg (a22 (nI k82).toNatClampNeg)) (upd ((aX10_takeRead_82 a5 a6 a7 a8 a22 a23 a24 a25 k82).2.1) (nI k82).toNatClampNeg (a23 (nI k82).toNatClampNeg)) (upd ((aX10_takeRead_82 a5 a6 a7 a8 a22 a23 a24 a25 k82).2.2.1) (nI k82).toNatClampNeg (a24 (nI k82).toNatClampNeg)) (upd ((aX10_takeRead_82 a5 a6 a7 a8 a22 a23 a24 a25 k82).2.2.2) (nI k82).toNatClampNeg (a25 (nI k82).toNatClampNeg)) a9 a10 a11 a12 a13 a14 a15 a16 a17 a18 a19 a20 a21 a22 a23 a24 a25 a26 a27 a28 a29 a30 a31 a32 a33 a34 a35 a36 a37 a38) 6 rfl (vp_in_nI (by omega) (by decide)) rfl dX10_takeRead_137 ?_
                    refine s_iinc X (pc := 138) (v := nI (k82 + 1)) (lv2 := [(1, .int (nI (k82 + 1))), (0, .ref (ad 0))]) 1 dX10_takeRead_138 rfl (nI_1 _) (by decide) rfl ?_
                    refine s_goto X (pc := 141) (tgt := 82) dX10_takeRead_141 (by decide) ?_
                    refine s_perm (lv2 := [(0, .ref (ad 0)), (1, .int (nI (k82 + 1)))]) [1, 0] rfl ?_
                    have hb82 : (aX10_takeRead_82 a5 a6 a7 a8 a22 a23 a24 a25 (k82 + 1)) = (upd ((aX10_takeRead_82 a5 a6 a7 a8 a22 a23 a24 a25 k82).1) (nI k82).toNatClampNeg (a22 (nI k82).toNatClampNeg), upd ((aX10_takeRead_82 a5 a6 a7 a8 a22 a23 a24 a25 k82).2.1) (nI k82).toNatClampNeg (a23 (nI k82).toNatClampNeg), upd ((aX10_takeRead_82 a5 a6 a7 a8 a22 a23 a24 a25 k82).2.2.1) (nI k82).toNatClampNeg (a24 (nI k82).toNatClampNeg), upd ((aX10_takeRead_82 a5 a6 a7 a8 a22 a23 a24 a25 k82).2.2.2) (nI k82).toNatClampNeg (a25 (nI k82).toNatClampNeg)) := rfl
                    refine s_cast (lv2 := [(0, .ref (ad 0)), (1, .int (nI (k82 + 1)))]) (w2 := wX10 G ad a17 (aX10_takeRead_26 a1 a18 a17.toNatClampNeg) a19 (aX10_takeRead_54 a3 a20 a19.toNatClampNeg) a21 ((aX10_takeRead_82 a5 a6 a7 a8 a22 a23 a24 a25 (k82 + 1)).1) ((aX10_takeRead_82 a5 a6 a7 a8 a22 a23 a24 a25 (k82 + 1)).2.1) ((aX10_takeRead_82 a5 a6 a7 a8 a22 a23 a24 a25 (k82 + 1)).2.2.1) ((aX10_takeRead_82 a5 a6 a7 a8 a22 a23 a24 a25 (k82 + 1)).2.2.2) a9 a10 a11 a12 a13 a14 a15 a16 a17 a18 a19 a20 a21 a22 a23 a24 a25 a26 a27 a28 a29 a30 a31 a32 a33 a34 a35 a36 a37 a38) (by first | (rw [hb82]; done) | rfl) (by first | (rw [hb82]; done) | rfl) ?_
                    exact ih82 (k82 + 1) (by omega)
              exact L82 a21.toNatClampNeg 0 (Nat.zero_add _)
            ·
              exact absurd ((t_le eN54 tk54).mpr (by omega)) c59
          | succ n54 ih54 =>
            intro k54 hk54
            have hlt54 : k54 < a19.toNatClampNeg := by omega
            have tk54 : (nI k54).toInt = ((k54 : Nat) : Int) := nI_toInt (by omega)
            have eN54 : (a19).toInt = ((a19.toNatClampNeg : Nat) : Int) := e19
            refine s_iload_n X (pc := 54) (x := nI k54) 1 dX10_takeRead_54 rfl ?_
            refine s_aload_n X (pc := 55) (x := (ad 0)) 0 dX10_takeRead_55 rfl ?_
            refine s_get X (pc := 56) (v := .int a19) iX10_takeRead_X10 0 rfl rfl 2 (by decide) kX10_takeRead_87 rfl rfl dX10_takeRead_56 ?_
            refine s_icmp_ge X (pc := 59) (tgt := 80) dX10_takeRead_59 (by decide) (fun c59 => ?_) (fun c59 => ?_)
            ·
              exact absurd ((t_le eN54 tk54).mp c59) (by omega)
            ·
              refine s_aload_n X (pc := 62) (x := (ad 0)) 0 dX10_takeRead_62 rfl ?_
              refine s_get X (pc := 63) (v := .ref (ad 4)) iX10_takeRead_X10 0 rfl rfl 3 (by decide) kX10_takeRead_13 rfl rfl dX10_takeRead_63 ?_
              refine s_iload_n X (pc := 66) (x := nI k54) 1 dX10_takeRead_66 rfl ?_
              refine s_aload_n X (pc := 67) (x := (ad 0)) 0 dX10_takeRead_67 rfl ?_
              refine s_get X (pc := 68) (v := .ref (ad 21)) iX10_takeRead_X10 0 rfl rfl 20 (by decide) kX10_takeRead_41 rfl rfl dX10_takeRead_68 ?_
              refine s_iload_n X (pc := 71) (x := nI k54) 1 dX10_takeRead_71 rfl ?_
              refine s_iald X (pc := 72) (n := 4) (f := a20) 10 rfl (vp_in_nI (by omega) (by decide)) dX10_takeRead_72 ?_
              refine s_iast X (pc := 73) (n := 4) (f := (aX10_takeRead_54 a3 a20 k54)) (w2 := wX10 G ad a17 (aX10_takeRead_26 a1 a18 a17.toNatClampNeg) a19 (upd (aX10_takeRead_54 a3 a20 k54) (nI k54).toNatClampNeg (a20 (nI k54).toNatClampNeg)) a21 a5 a6 a7 a8 a9 a10 a11 a12 a13 a14 a15 a16 a17 a18 a19 a20 a21 a22 a23 a24 a25 a26 a27 a28 a29 a30 a31 a32 a33 a34 a35 a36 a37 a38) 2 rfl (vp_in_nI (by omega) (by decide)) rfl dX10_takeRead_73 ?_
              refine s_iinc X (pc := 74) (v := nI (k54 + 1)) (lv2 := [(1, .int (nI (k54 + 1))), (0, .ref (ad 0))]) 1 dX10_takeRead_74 rfl (nI_1 _) (by decide) rfl ?_
              refine s_goto X (pc := 77) (tgt := 54) dX10_takeRead_77 (by decide) ?_
              refine s_perm (lv2 := [(0, .ref (ad 0)), (1, .int (nI (k54 + 1)))]) [1, 0] rfl ?_
              have hb54 : (aX10_takeRead_54 a3 a20 (k54 + 1)) = upd (aX10_takeRead_54 a3 a20 k54) (nI k54).toNatClampNeg (a20 (nI k54).toNatClampNeg) := rfl
              refine s_cast (lv2 := [(0, .ref (ad 0)), (1, .int (nI (k54 + 1)))]) (w2 := wX10 G ad a17 (aX10_takeRead_26 a1 a18 a17.toNatClampNeg) a19 (aX10_takeRead_54 a3 a20 (k54 + 1)) a21 a5 a6 a7 a8 a9 a10 a11 a12 a13 a14 a15 a16 a17 a18 a19 a20 a21 a22 a23 a24 a25 a26 a27 a28 a29 a30 a31 a32 a33 a34 a35 a36 a37 a38) (by first | (rw [hb54]; done) | rfl) (by first | (rw [hb54]; done) | rfl) ?_
              exact ih54 (k54 + 1) (by omega)
        exact L54 a19.toNatClampNeg 0 (Nat.zero_add _)
      ·
        exact absurd ((t_le eN26 tk26).mpr (by omega)) c31
    | succ n26 ih26 =>
      intro k26 hk26
      have hlt26 : k26 < a17.toNatClampNeg := by omega
      have tk26 : (nI k26).toInt = ((k26 : Nat) : Int) := nI_toInt (by omega)
      have eN26 : (a17).toInt = ((a17.toNatClampNeg : Nat) : Int) := e17
      refine s_iload_n X (pc := 26) (x := nI k26) 1 dX10_takeRead_26 rfl ?_
      refine s_aload_n X (pc := 27) (x := (ad 0)) 0 dX10_takeRead_27 rfl ?_
      refine s_get X (pc := 28) (v := .int a17) iX10_takeRead_X10 0 rfl rfl 0 (by decide) kX10_takeRead_152 rfl rfl dX10_takeRead_28 ?_
      refine s_icmp_ge X (pc := 31) (tgt := 52) dX10_takeRead_31 (by decide) (fun c31 => ?_) (fun c31 => ?_)
      ·
        exact absurd ((t_le eN26 tk26).mp c31) (by omega)
      ·
        refine s_aload_n X (pc := 34) (x := (ad 0)) 0 dX10_takeRead_34 rfl ?_
        refine s_get X (pc := 35) (v := .ref (ad 2)) iX10_takeRead_X10 0 rfl rfl 1 (by decide) kX10_takeRead_7 rfl rfl dX10_takeRead_35 ?_
        refine s_iload_n X (pc := 38) (x := nI k26) 1 dX10_takeRead_38 rfl ?_
        refine s_aload_n X (pc := 39) (x := (ad 0)) 0 dX10_takeRead_39 rfl ?_
        refine s_get X (pc := 40) (v := .ref (ad 19)) iX10_takeRead_X10 0 rfl rfl 18 (by decide) kX10_takeRead_38 rfl rfl dX10_takeRead_40 ?_
        refine s_iload_n X (pc := 43) (x := nI k26) 1 dX10_takeRead_43 rfl ?_
        refine s_iald X (pc := 44) (n := 12) (f := a18) 9 rfl (vp_in_nI (by omega) (by decide)) dX10_takeRead_44 ?_
        refine s_iast X (pc := 45) (n := 12) (f := (aX10_takeRead_26 a1 a18 k26)) (w2 := wX10 G ad a17 (upd (aX10_takeRead_26 a1 a18 k26) (nI k26).toNatClampNeg (a18 (nI k26).toNatClampNeg)) a19 a3 a21 a5 a6 a7 a8 a9 a10 a11 a12 a13 a14 a15 a16 a17 a18 a19 a20 a21 a22 a23 a24 a25 a26 a27 a28 a29 a30 a31 a32 a33 a34 a35 a36 a37 a38) 1 rfl (vp_in_nI (by omega) (by decide)) rfl dX10_takeRead_45 ?_
        refine s_iinc X (pc := 46) (v := nI (k26 + 1)) (lv2 := [(1, .int (nI (k26 + 1))), (0, .ref (ad 0))]) 1 dX10_takeRead_46 rfl (nI_1 _) (by decide) rfl ?_
        refine s_goto X (pc := 49) (tgt := 26) dX10_takeRead_49 (by decide) ?_
        refine s_perm (lv2 := [(0, .ref (ad 0)), (1, .int (nI (k26 + 1)))]) [1, 0] rfl ?_
        have hb26 : (aX10_takeRead_26 a1 a18 (k26 + 1)) = upd (aX10_takeRead_26 a1 a18 k26) (nI k26).toNatClampNeg (a18 (nI k26).toNatClampNeg) := rfl
        refine s_cast (lv2 := [(0, .ref (ad 0)), (1, .int (nI (k26 + 1)))]) (w2 := wX10 G ad a17 (aX10_takeRead_26 a1 a18 (k26 + 1)) a19 a3 a21 a5 a6 a7 a8 a9 a10 a11 a12 a13 a14 a15 a16 a17 a18 a19 a20 a21 a22 a23 a24 a25 a26 a27 a28 a29 a30 a31 a32 a33 a34 a35 a36 a37 a38) (by first | (rw [hb26]; done) | rfl) (by first | (rw [hb26]; done) | rfl) ?_
        exact ih26 (k26 + 1) (by omega)
  exact L26 a17.toNatClampNeg 0 (Nat.zero_add _)
