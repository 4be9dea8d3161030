section PARSE2
variable {rd0 a11 : Nat → Int32} {a12 : Int32}
theorem num_e (hT : TX rd0 a11 a12) {x y a15 p0 p1 : Int32} (h1 : 0 ≤ x) (h240 : x ≤ 240) : sX8_readNumber_3 rd0 x a12 0 y p0 p1 = rX10_takeNumber a11 a12 y x p0 p1 ∧ sX8_readNumber_4 rd0 x a12 0 y p0 p1 = sX10_takeNumber_13 a11 a12 y x p0 p1 ∧ sX8_readNumber_1 rd0 x a12 0 y p0 p1 = sX10_takeNumber_14 a11 a12 y x p0 p1 ∧ (rX10_takeNumber a11 a12 y x p0 p1 = 0 → rX8_readNumber rd0 x a12 0 y p0 p1 = sX10_takeNumber_15 a11 a12 y x a15 p0 p1 ∧ p0 ≤ sX10_takeNumber_15 a11 a12 y x a15 p0 p1 ∧ sX10_takeNumber_15 a11 a12 y x a15 p0 p1 ≤ p1) := by
  have h := num_eq hT (a1 := x) (a4 := y) (a13 := y) (a15 := a15) (p0 := p0) (p1 := p1) h1 h240
  obtain ⟨e1, e2, e3⟩ := h
  by_cases q : rX10_takeNumber a11 a12 y x p0 p1 = 0
  · have z := e2 q
    exact ⟨z.1.trans q.symm, z.2.1.trans z.2.2.2.2.2.symm, e1, fun _ => ⟨z.2.2.1, z.2.2.2.1, z.2.2.2.2.1⟩⟩
  · have z := e3 q
    exact ⟨z.1, z.2, e1, fun e => absurd e q⟩
theorem de_eq (hT : TX rd0 a11 a12) {X p : Int32} (h0 : 0 ≤ X) : sX8_demandEnd_1 rd0 X a12 = (if rX10_here a11 a12 X = 59 then sX10_here_14 a11 a12 X + 1 else sX10_here_14 a11 a12 X) ∧ sX8_demandEnd_3 rd0 X a12 0 = (if rX10_here a11 a12 X = 59 then 0 else 1) ∧ sX8_demandEnd_4 rd0 X a12 0 p = (if rX10_here a11 a12 X = 59 then p else sX10_here_14 a11 a12 X) := by
  unfold sX8_demandEnd_1 sX8_demandEnd_3 sX8_demandEnd_4 rX8_passes sX8_passes_1
  rw [here_r hT h0, here_e hT h0]
  have n1 : ¬ (1 : Int32) = 0 := by decide
  by_cases q : rX8_letter rd0 (sX8_skipBlanks_1 rd0 X a12) a12 = 59
  · simp only [if_pos q, if_neg n1]
    exact ⟨trivial, trivial, trivial⟩
  · simp only [if_neg q, if_true, note3_0, note4_0]
    exact ⟨trivial, trivial, trivial⟩
theorem de_skip (hT : TX rd0 a11 a12) {X p : Int32} (h0 : 0 ≤ X) : sX8_demandEnd_1 rd0 (sX8_skipBlanks_1 rd0 X a12) a12 = sX8_demandEnd_1 rd0 X a12 ∧ sX8_demandEnd_3 rd0 (sX8_skipBlanks_1 rd0 X a12) a12 0 = sX8_demandEnd_3 rd0 X a12 0 ∧ sX8_demandEnd_4 rd0 (sX8_skipBlanks_1 rd0 X a12) a12 0 p = sX8_demandEnd_4 rd0 X a12 0 p := by
  unfold sX8_demandEnd_1 sX8_demandEnd_3 sX8_demandEnd_4 rX8_passes sX8_passes_1
  rw [skip_id hT h0]
  exact ⟨rfl, rfl, rfl⟩
/-- the end of a clause -/
theorem end_c (hT : TX rd0 a11 a12) {X X' f p : Int32} (h0 : 0 ≤ X') (hX : f = 0 → X = X') : sX8_demandEnd_3 rd0 X a12 f = (if f = 0 then (if rX10_here a11 a12 X' = 59 then f else rX10_fails 1) else f) ∧ sX8_demandEnd_4 rd0 X a12 f p = (if f = 0 then (if rX10_here a11 a12 X' = 59 then p else sX10_fails_13 (sX10_here_14 a11 a12 X')) else p) ∧ (f = 0 → rX10_here a11 a12 X' = 59 → sX8_demandEnd_1 rd0 X a12 = sX10_here_14 a11 a12 X' + 1) := by
  by_cases q : f = 0
  · subst q
    rw [hX rfl]
    have d := de_eq hT (p := p) h0
    simp only [if_true]
    rw [d.1, d.2.1, d.2.2]
    exact ⟨rfl, rfl, fun _ e => if_pos e⟩
  · have d := de_st (rd0 := rd0) (a12 := a12) (a1 := X) (a4 := p) q
    rw [if_neg q, if_neg q]
    exact ⟨d.1, d.2, fun e => absurd e q⟩
theorem rt_st {y3 : Int32} (h : y3 ≠ 0) : ∀ (n : Nat) (g i x y4 : Int32) (z0 : Nat → Int32) (z6 : Int32), (aX8_readTide_19 rd0 a12 n g i x y3 y4 z0 z6).2.1 = y3 ∧ (aX8_readTide_19 rd0 a12 n g i x y3 y4 z0 z6).2.2.1 = y4 := by
  intro n
  induction n with
  | zero => intro g i x y4 z0 z6; exact ⟨rfl, rfl⟩
  | succ n ih =>
    intro g i x y4 z0 z6
    rw [aX8_readTide_19]
    have s := fun (p0 p1 : Int32) => rn_st (rd0 := rd0) (a12 := a12) (a1 := x) (a4 := y4) (p0 := p0) (p1 := p1) h
    have d := de_st (rd0 := rd0) (a12 := a12) (a1 := x) (a4 := y4) h
    simp only [(s _ _).1, (s _ _).2, d.1, d.2]
    repeat' split
    all_goals first | exact ⟨rfl, rfl⟩ | exact ih _ _ _ _ _ _
/-- the tide, behind k numbers of it -/
theorem tide_eq (hT : TX rd0 a11 a12) : ∀ (m k : Nat), m + k = 13 → k < 12 → ∀ (x y a15 a16 : Int32) (z0 z18 : Nat → Int32), 0 ≤ x → x ≤ 240 → (∀ j : Nat, j < k → z0 j = z18 j ∧ 0 ≤ z18 j ∧ z18 j ≤ 9) → ∀ (C : Int32 × Int32 × Int32 × (Nat → Int32) × Int32) (T : Int32 × Int32 × Int32 × Int32 × Int32 × Int32 × (Nat → Int32)), C = aX8_readTide_19 rd0 a12 m 1 (nI k) x 0 y z0 (nI k) → T = aX10_takeTide_18 a11 a12 m (rX10_takeNumber a11 a12 y x 0 9) (sX10_takeNumber_13 a11 a12 y x 0 9) (sX10_takeNumber_14 a11 a12 y x 0 9) (sX10_takeNumber_15 a11 a12 y x a15 0 9) (sX10_takeNumber_16 a11 a12 x a16) (nI (k + 1)) (upd z18 k (sX10_takeNumber_15 a11 a12 y x a15 0 9)) →
    C.2.1 = sX8_demandEnd_3 rd0 T.2.2.1 a12 T.1 ∧ C.2.2.1 = sX8_demandEnd_4 rd0 T.2.2.1 a12 T.1 T.2.1 ∧ (T.1 = 0 → C.1 = sX8_demandEnd_1 rd0 T.2.2.1 a12 ∧ C.2.2.2.2 = T.2.2.2.2.2.1 ∧ 0 < T.2.2.2.2.2.1 ∧ T.2.2.2.2.2.1 ≤ 12 ∧ ∀ j : Nat, j < (T.2.2.2.2.2.1).toNatClampNeg → C.2.2.2.1 j = T.2.2.2.2.2.2 j ∧ 0 ≤ T.2.2.2.2.2.2 j ∧ T.2.2.2.2.2.2 j ≤ 9) := by
  intro m
  induction m with
  | zero => intro k h; omega
  | succ m ih =>
    intro k hmk hk x y a15 a16 z0 z18 x0 x240 hz C T hC hTt
    rw [aX8_readTide_19] at hC
    have i12 : ¬ (12 : Int32) ≤ nI k := Int32.not_le.mpr (nI_lt (a := k) (b := 12) hk (by decide))
    have n1 : ¬ (1 : Int32) = 0 := by decide
    rw [if_neg i12, if_neg n1] at hC
    have a6 : sX0_addTide_6 (nI k) = nI (k + 1) := by
      unfold sX0_addTide_6
      rw [if_neg i12, nI_1]
    have ne := num_e hT (x := x) (y := y) (a15 := a15) (p0 := 0) (p1 := 9) x0 x240
    have xn := tn_nn (a11 := a11) (a13 := y) (p0 := 0) (p1 := 9) x0 hT.2.2.1
    have xu := tn_ub (a11 := a11) (a13 := y) (p0 := 0) (p1 := 9) x0 x240 hT.2.2.1
    have a0e : ∀ v : Int32, sX0_addTide_0 z0 (nI k) v = upd z0 k v := fun v => by
      unfold sX0_addTide_0
      rw [if_neg i12, kc k (by omega)]
    have ik : nI k + 1 = nI (k + 1) := nI_1 k
    simp only [a6, a0e, ne.1, ne.2.1, ne.2.2.1, ik] at hC
    rw [aX10_takeTide_18] at hTt
    by_cases q : rX10_takeNumber a11 a12 y x 0 9 = 0
    · have nv := ne.2.2.2 q
      simp only [q, nv.1, if_true] at hC
      simp only [q, if_true] at hTt
      generalize hx1 : sX10_takeNumber_14 a11 a12 y x 0 9 = x1 at hC hTt xn xu
      generalize sX10_takeNumber_13 a11 a12 y x 0 9 = y1 at hC hTt
      generalize sX10_takeNumber_15 a11 a12 y x a15 0 9 = v at hC hTt nv
      generalize sX10_takeNumber_16 a11 a12 x a16 = w16 at hTt
      have hz2 : ∀ j : Nat, j < k + 1 → upd z0 k v j = upd z18 k v j ∧ 0 ≤ upd z18 k v j ∧ upd z18 k v j ≤ 9 := fun j hj => by
        by_cases e : j = k
        · subst e
          rw [up_s, up_s]
          exact ⟨rfl, nv.2.1, nv.2.2⟩
        · rw [up_n e, up_n e]
          exact hz j (by omega)
      have hn := here_nn (a11 := a11) xn hT.2.2.1
      -- no more numbers: both stand at the end of the clause
      have stop : ∀ X : Int32, (sX8_demandEnd_1 rd0 X a12 = sX8_demandEnd_1 rd0 (sX10_here_14 a11 a12 x1) a12 ∧ sX8_demandEnd_3 rd0 X a12 0 = sX8_demandEnd_3 rd0 (sX10_here_14 a11 a12 x1) a12 0 ∧ sX8_demandEnd_4 rd0 X a12 0 y1 = sX8_demandEnd_4 rd0 (sX10_here_14 a11 a12 x1) a12 0 y1) → C = (sX8_demandEnd_1 rd0 X a12, sX8_demandEnd_3 rd0 X a12 0, sX8_demandEnd_4 rd0 X a12 0 y1, upd z0 k v, nI (k + 1)) → T = (0, y1, sX10_here_14 a11 a12 x1, v, w16, nI (k + 1), upd z18 k v) → C.2.1 = sX8_demandEnd_3 rd0 T.2.2.1 a12 T.1 ∧ C.2.2.1 = sX8_demandEnd_4 rd0 T.2.2.1 a12 T.1 T.2.1 ∧ (T.1 = 0 → C.1 = sX8_demandEnd_1 rd0 T.2.2.1 a12 ∧ C.2.2.2.2 = T.2.2.2.2.2.1 ∧ 0 < T.2.2.2.2.2.1 ∧ T.2.2.2.2.2.1 ≤ 12 ∧ ∀ j : Nat, j < (T.2.2.2.2.2.1).toNatClampNeg → C.2.2.2.1 j = T.2.2.2.2.2.2 j ∧ 0 ≤ T.2.2.2.2.2.2 j ∧ T.2.2.2.2.2.2 j ≤ 9) := fun X e hc ht => by
        subst hc
        subst ht
        refine ⟨e.2.1, e.2.2, fun _ => ⟨e.1, rfl, ?_, nI_le (b := 12) (by omega) (by decide), fun j hj => ?_⟩⟩
        · exact nI_lt (a := 0) (b := k + 1) (by omega) (by omega)
        · rw [kc (k + 1) (by omega)] at hj
          exact hz2 j hj
      have sk := de_skip hT (X := x1) (p := y1) xn
      rw [← here_e hT xn] at sk
      obtain ⟨m2, rfl⟩ : ∃ m2, m = m2 + 1 := ⟨m - 1, by omega⟩
      by_cases k11 : k + 1 = 12
      · have c12 : (12 : Int32) ≤ nI (k + 1) := by rw [k11]; decide
        rw [if_pos c12, aX8_readTide_19, if_pos c12] at hC
        by_cases q2 : rX10_here a11 a12 x1 = 44
        · have z12 : nI (k + 1) = 12 := by rw [k11]; rfl
          rw [if_pos q2, if_pos z12] at hTt
          subst hC
          subst hTt
          have d := de_eq hT (X := x1) (p := y1) xn
          have n59 : ¬ rX10_here a11 a12 x1 = 59 := by rw [q2]; decide
          rw [if_neg n59, if_neg n59, if_neg n59] at d
          have n10 : rX10_fails 1 ≠ 0 := by decide
          have ds := de_st (rd0 := rd0) (a12 := a12) (a1 := sX10_here_14 a11 a12 x1) (a4 := sX10_fails_13 (sX10_here_14 a11 a12 x1)) n10
          refine ⟨?_, ?_, fun e => absurd e n10⟩
          · exact d.2.1.trans ds.1.symm
          · exact d.2.2.trans ds.2.symm
        · rw [if_neg q2] at hTt
          exact stop x1 ⟨sk.1.symm, sk.2.1.symm, sk.2.2.symm⟩ hC hTt
      · have c12 : ¬ (12 : Int32) ≤ nI (k + 1) := Int32.not_le.mpr (nI_lt (a := k + 1) (b := 12) (by omega) (by decide))
        rw [if_neg c12] at hC
        have pe : rX8_passes rd0 x1 a12 44 = if rX10_here a11 a12 x1 = 44 then 1 else 0 := by unfold rX8_passes; rw [here_r hT xn]
        have p1e : sX8_passes_1 rd0 x1 a12 44 = if rX10_here a11 a12 x1 = 44 then sX10_here_14 a11 a12 x1 + 1 else sX10_here_14 a11 a12 x1 := by unfold sX8_passes_1; rw [here_r hT xn, here_e hT xn]
        rw [pe, p1e] at hC
        by_cases q2 : rX10_here a11 a12 x1 = 44
        · have z12 : ¬ nI (k + 1) = 12 := fun e => k11 (nI_i (by omega) (by omega) e)
          rw [if_pos q2, if_neg z12] at hTt
          simp only [if_pos q2, if_neg n1] at hC
          have hlt := h_lt xn hT.2.2.1 q2 (by decide)
          have hC2 : C = aX8_readTide_19 rd0 a12 (m2 + 1) 1 (nI (k + 1)) (sX10_here_14 a11 a12 x1 + 1) 0 y1 (upd z0 k v) (nI (k + 1)) := hC
          have e18 : (nI (k + 1)).toNatClampNeg = k + 1 := kc (k + 1) (by omega)
          rw [e18, show nI (k + 1) + 1 = nI (k + 1 + 1) from nI_1 (k + 1)] at hTt
          exact ih (k + 1) (by omega) (by omega) _ y1 v w16 _ _ (a_nn hn hlt) (by grind) hz2 C T hC2 hTt
        · rw [if_neg q2] at hTt
          simp only [if_neg q2, if_true] at hC
          rw [aX8_readTide_19, if_neg c12] at hC
          simp only [if_true] at hC
          exact stop _ ⟨rfl, rfl, rfl⟩ hC hTt
    · simp only [if_neg q] at hTt
      have ht1 : T.1 = rX10_takeNumber a11 a12 y x 0 9 := by rw [hTt]
      have ht2 : T.2.1 = sX10_takeNumber_13 a11 a12 y x 0 9 := by rw [hTt]
      have ds := de_st (rd0 := rd0) (a12 := a12) (a1 := T.2.2.1) (a4 := T.2.1) (a3 := T.1) (by rw [ht1]; exact q)
      rw [ds.1, ds.2, ht1, ht2]
      have hc : C.2.1 = rX10_takeNumber a11 a12 y x 0 9 ∧ C.2.2.1 = sX10_takeNumber_13 a11 a12 y x 0 9 := by
        rw [hC]
        repeat' split
        all_goals exact rt_st q _ _ _ _ _ _ _
      exact ⟨hc.1, hc.2, fun e => absurd e q⟩
end PARSE2
