section PARSE1
variable {rd0 a11 : Nat → Int32} {a12 : Int32}
/-- the text, as both read it -/
abbrev TX (rd0 a11 : Nat → Int32) (a12 : Int32) : Prop := RT rd0 a12 a11 a12
theorem let_in (hT : TX rd0 a11 a12) {x : Int32} (h0 : 0 ≤ x) (h : ¬ a12 ≤ x) : rX8_letter rd0 x a12 = a11 (x.toNatClampNeg) ∧ 0 ≤ a11 (x.toNatClampNeg) := by
  have hl := Int32.not_le.mp h
  have h240 := Int32.lt_of_lt_of_le hl hT.2.2.1
  have hc : x.toNatClampNeg < a12.toNatClampNeg := by
    have e1 := clampInt h0
    have e2 := clampInt hT.2.1
    have := Int32.lt_iff_toInt_lt.mp hl
    omega
  unfold rX8_letter
  rw [if_neg (Int32.not_lt.mpr h0), if_neg h, if_neg (Int32.not_le.mpr h240)]
  exact hT.2.2.2 _ hc
theorem let_out {x : Int32} (h : a12 ≤ x) : rX8_letter rd0 x a12 = -1 := by
  unfold rX8_letter
  split
  · rfl
  · first | rfl | rw [if_pos h]
theorem here0 (hT : TX rd0 a11 a12) : ∀ (n : Nat) (x : Int32), 0 ≤ x → ((240 : Nat) - x.toInt).toNat < n → (aX10_here_0 a11 a12 n x).2 = aX8_skipBlanks_0 rd0 a12 n x ∧ (aX10_here_0 a11 a12 n x).1 = rX8_letter rd0 (aX8_skipBlanks_0 rd0 a12 n x) a12 ∧ 0 ≤ aX8_skipBlanks_0 rd0 a12 n x ∧ (a12 ≤ aX8_skipBlanks_0 rd0 a12 n x ∨ ¬ rX8_letter rd0 (aX8_skipBlanks_0 rd0 a12 n x) a12 = 32) := by
  intro n
  induction n with
  | zero => intro x _ hm; exact absurd hm (Nat.not_lt_zero _)
  | succ n ih =>
    intro x h0 hm
    rw [aX10_here_0, aX8_skipBlanks_0]
    by_cases q : a12 ≤ x
    · rw [if_pos q, if_pos q]
      exact ⟨rfl, (let_out q).symm, h0, Or.inl q⟩
    · have l := let_in hT h0 q
      rw [if_neg q, if_neg q, l.1]
      have hx : x < 240 := Int32.lt_of_lt_of_le (Int32.not_le.mp q) hT.2.2.1
      by_cases q2 : a11 (x.toNatClampNeg) = 32
      · rw [if_pos q2, if_pos q2]
        exact ih (x + 1) (a_nn h0 hx) (up_lt (b := 240) rfl hx hm)
      · rw [if_neg q2, if_neg q2]
        exact ⟨rfl, l.1.symm, h0, Or.inr (by rw [l.1]; exact q2)⟩
theorem here_e (hT : TX rd0 a11 a12) {x : Int32} (h0 : 0 ≤ x) : sX10_here_14 a11 a12 x = sX8_skipBlanks_1 rd0 x a12 := (here0 hT 241 x h0 (m_lt h0)).1
theorem here_r (hT : TX rd0 a11 a12) {x : Int32} (h0 : 0 ≤ x) : rX10_here a11 a12 x = rX8_letter rd0 (sX8_skipBlanks_1 rd0 x a12) a12 := (here0 hT 241 x h0 (m_lt h0)).2.1
theorem skip_id (hT : TX rd0 a11 a12) {x : Int32} (h0 : 0 ≤ x) : sX8_skipBlanks_1 rd0 (sX8_skipBlanks_1 rd0 x a12) a12 = sX8_skipBlanks_1 rd0 x a12 := by
  have h := (here0 hT 241 x h0 (m_lt h0)).2.2
  show aX8_skipBlanks_0 rd0 a12 241 (aX8_skipBlanks_0 rd0 a12 241 x) = aX8_skipBlanks_0 rd0 a12 241 x
  generalize aX8_skipBlanks_0 rd0 a12 241 x = y at h ⊢
  rw [aX8_skipBlanks_0]
  rcases h.2 with q | q
  · rw [if_pos q]
  · by_cases q2 : a12 ≤ y
    · rw [if_pos q2]
    · rw [if_neg q2, if_neg q]
theorem fig_iff {l : Int32} : rX10_in l.toInt64 48 57 = 0 ↔ rX8_isFigure l = 0 := by
  have h : rX10_in l.toInt64 48 57 = 0 ↔ ¬ (48 ≤ l ∧ l ≤ 57) := in32 l 48 57
  rw [h]
  unfold rX8_isFigure
  constructor
  · intro q
    split
    · rfl
    · rename_i c
      rw [if_pos]
      grind
  · intro q z
    rw [if_neg (Int32.not_lt.mpr z.1), if_neg (Int32.not_lt.mpr z.2)] at q
    exact absurd q (by decide)
theorem fig_ok {l : Int32} (h : ¬ rX8_isFigure l = 0) : 48 ≤ l ∧ l ≤ 57 := by
  have h2 : ¬ rX10_in l.toInt64 48 57 = 0 := fun e => h (fig_iff.mp e)
  exact inI 48 57 rfl rfl h2
theorem note3_0 {p : Int32} : sX8_note_3 0 p = p := if_pos rfl
theorem note4_0 {a p : Int32} : sX8_note_4 0 a p = p := if_pos rfl
theorem note3_s {a p : Int32} (h : a ≠ 0) : sX8_note_3 a p = a := if_neg h
theorem note4_s {a b p : Int32} (h : a ≠ 0) : sX8_note_4 a b p = b := if_neg h
/-- what one number is, for both -/
def NumR (c1 c2 c3 c4 m1 m2 m3 m4 a4 a13 p0 p1 : Int32) : Prop :=
  c2 = m3 ∧ (m1 = 0 → c3 = 0 ∧ c4 = a4 ∧ c1 = m4 ∧ p0 ≤ m4 ∧ m4 ≤ p1 ∧ m2 = a13) ∧ (m1 ≠ 0 → c3 = m1 ∧ c4 = m2)
theorem num12 (hT : TX rd0 a11 a12) {a1 a4 a13 p0 p1 : Int32} (h1 : 0 ≤ a1) {p : Nat} (hp : sX8_skipBlanks_1 rd0 a1 a12 = nI p) (hpl : p ≤ 240) : ∀ (n k : Nat) (v w : Int32), p + k ≤ 240 → 240 - (p + k) < n → (k ≤ 3 → v = w ∧ ∃ V : Nat, V < 10 ^ k ∧ v = nI V) → (1 ≤ k ∨ (¬ a12 ≤ nI (p + k) ∧ ¬ rX8_isFigure (rX8_letter rd0 (nI (p + k)) a12) = 0)) → NumR (aX8_readNumber_12 rd0 a1 a12 0 a4 p0 p1 n v (nI (p + k))).1 (aX8_readNumber_12 rd0 a1 a12 0 a4 p0 p1 n v (nI (p + k))).2.1 (aX8_readNumber_12 rd0 a1 a12 0 a4 p0 p1 n v (nI (p + k))).2.2.1 (aX8_readNumber_12 rd0 a1 a12 0 a4 p0 p1 n v (nI (p + k))).2.2.2 (aX10_takeNumber_42 a11 a12 a13 a1 p0 p1 n (nI (p + k)) w).1 (aX10_takeNumber_42 a11 a12 a13 a1 p0 p1 n (nI (p + k)) w).2.1 (aX10_takeNumber_42 a11 a12 a13 a1 p0 p1 n (nI (p + k)) w).2.2.1 (aX10_takeNumber_42 a11 a12 a13 a1 p0 p1 n (nI (p + k)) w).2.2.2 a4 a13 p0 p1 := by
  intro n
  induction n with
  | zero => intro k v w _ hm; exact absurd hm (Nat.not_lt_zero _)
  | succ n ih =>
    intro k v w hk hm hv hf
    have hx0 : (0 : Int32) ≤ nI (p + k) := nI_pos' (by omega)
    have es : nI (p + k) - nI p = nI k := by rw [pk_sub (by omega)]; congr 1; omega
    rw [aX8_readNumber_12, aX10_takeNumber_42, here_e hT h1, hp, es]
    -- the end of the figures
    have fin : 1 ≤ k → NumR (if nI (p + k) = nI p then (v, nI (p + k), sX8_note_3 0 1, sX8_note_4 0 a4 (nI p)) else if (3 : Int32) < nI k then (v, nI (p + k), sX8_note_3 0 2, sX8_note_4 0 a4 (nI p)) else if v < p0 then (v, nI (p + k), sX8_note_3 0 2, sX8_note_4 0 a4 (nI p)) else if v ≤ p1 then (v, nI (p + k), 0, a4) else (v, nI (p + k), sX8_note_3 0 2, sX8_note_4 0 a4 (nI p))).1 (if nI (p + k) = nI p then (v, nI (p + k), sX8_note_3 0 1, sX8_note_4 0 a4 (nI p)) else if (3 : Int32) < nI k then (v, nI (p + k), sX8_note_3 0 2, sX8_note_4 0 a4 (nI p)) else if v < p0 then (v, nI (p + k), sX8_note_3 0 2, sX8_note_4 0 a4 (nI p)) else if v ≤ p1 then (v, nI (p + k), 0, a4) else (v, nI (p + k), sX8_note_3 0 2, sX8_note_4 0 a4 (nI p))).2.1 (if nI (p + k) = nI p then (v, nI (p + k), sX8_note_3 0 1, sX8_note_4 0 a4 (nI p)) else if (3 : Int32) < nI k then (v, nI (p + k), sX8_note_3 0 2, sX8_note_4 0 a4 (nI p)) else if v < p0 then (v, nI (p + k), sX8_note_3 0 2, sX8_note_4 0 a4 (nI p)) else if v ≤ p1 then (v, nI (p + k), 0, a4) else (v, nI (p + k), sX8_note_3 0 2, sX8_note_4 0 a4 (nI p))).2.2.1 (if nI (p + k) = nI p then (v, nI (p + k), sX8_note_3 0 1, sX8_note_4 0 a4 (nI p)) else if (3 : Int32) < nI k then (v, nI (p + k), sX8_note_3 0 2, sX8_note_4 0 a4 (nI p)) else if v < p0 then (v, nI (p + k), sX8_note_3 0 2, sX8_note_4 0 a4 (nI p)) else if v ≤ p1 then (v, nI (p + k), 0, a4) else (v, nI (p + k), sX8_note_3 0 2, sX8_note_4 0 a4 (nI p))).2.2.2 (if (3 : Int32) < nI k then (rX10_fails 2, sX10_fails_13 (nI p), nI (p + k), w) else if rX10_in w.toInt64 p0.toInt64 p1.toInt64 = 0 then (rX10_fails 2, sX10_fails_13 (nI p), nI (p + k), w) else (0, a13, nI (p + k), w)).1 (if (3 : Int32) < nI k then (rX10_fails 2, sX10_fails_13 (nI p), nI (p + k), w) else if rX10_in w.toInt64 p0.toInt64 p1.toInt64 = 0 then (rX10_fails 2, sX10_fails_13 (nI p), nI (p + k), w) else (0, a13, nI (p + k), w)).2.1 (if (3 : Int32) < nI k then (rX10_fails 2, sX10_fails_13 (nI p), nI (p + k), w) else if rX10_in w.toInt64 p0.toInt64 p1.toInt64 = 0 then (rX10_fails 2, sX10_fails_13 (nI p), nI (p + k), w) else (0, a13, nI (p + k), w)).2.2.1 (if (3 : Int32) < nI k then (rX10_fails 2, sX10_fails_13 (nI p), nI (p + k), w) else if rX10_in w.toInt64 p0.toInt64 p1.toInt64 = 0 then (rX10_fails 2, sX10_fails_13 (nI p), nI (p + k), w) else (0, a13, nI (p + k), w)).2.2.2 a4 a13 p0 p1 := fun k1 => by
      have ne : ¬ nI (p + k) = nI p := fun e => by
        have := nI_i (by omega) (by omega) e
        omega
      have n2 : (2 : Int32) ≠ 0 := by decide
      rw [if_neg ne]
      by_cases q3 : (3 : Int32) < nI k
      · rw [if_pos q3, if_pos q3]
        exact ⟨rfl, fun e => absurd e n2, fun _ => ⟨note3_0, note4_0 (a := a4)⟩⟩
      · rw [if_neg q3, if_neg q3]
        have k3 : k ≤ 3 := by
          rcases Nat.lt_or_ge 3 k with z | z
          · exact absurd (nI_lt (a := 3) (b := k) z (by omega)) q3
          · exact z
        obtain ⟨vw, -⟩ := hv k3
        subst vw
        have hin := in32 v p0 p1
        by_cases q4 : v < p0
        · rw [if_pos q4, if_pos (hin.mpr fun z => absurd q4 (Int32.not_lt.mpr z.1))]
          exact ⟨rfl, fun e => absurd e n2, fun _ => ⟨note3_0, note4_0 (a := a4)⟩⟩
        · rw [if_neg q4]
          by_cases q5 : v ≤ p1
          · rw [if_pos q5, if_neg (fun e => hin.mp e ⟨Int32.not_lt.mp q4, q5⟩)]
            exact ⟨rfl, fun _ => ⟨rfl, rfl, rfl, Int32.not_lt.mp q4, q5, rfl⟩, fun e => absurd rfl e⟩
          · rw [if_neg q5, if_pos (hin.mpr fun z => q5 z.2)]
            exact ⟨rfl, fun e => absurd e n2, fun _ => ⟨note3_0, note4_0 (a := a4)⟩⟩
    by_cases q : a12 ≤ nI (p + k)
    · rw [if_pos q, if_pos q]
      exact fin (hf.resolve_right fun z => z.1 q)
    · rw [if_neg q, if_neg q]
      have l := let_in hT hx0 q
      simp only [← l.1, fig_iff]
      by_cases q2 : rX8_isFigure (rX8_letter rd0 (nI (p + k)) a12) = 0
      · rw [if_pos q2, if_pos q2]
        exact fin (hf.resolve_right fun z => z.2 q2)
      · rw [if_neg q2, if_neg q2]
        have fo := fig_ok q2
        have hlt : p + k < 240 := by
          have := Int32.lt_iff_toInt_lt.mp (Int32.lt_of_lt_of_le (Int32.not_le.mp q) hT.2.2.1)
          rw [nI_toInt (by omega)] at this
          have e : (240 : Int32).toInt = 240 := rfl
          omega
        have ex : nI (p + k) + 1 = nI (p + (k + 1)) := nI_1 (p + k)
        have m0 : p + (k + 1) ≤ 240 := by clear hv; omega
        have m1 : 240 - (p + (k + 1)) < n := by clear hv; omega
        rw [ex]
        by_cases q3 : (3 : Int32) ≤ nI k
        · rw [if_pos q3]
          have k3 : 3 ≤ k := by
            rcases Nat.lt_or_ge k 3 with z | z
            · exact absurd (nI_lt (a := k) (b := 3) z (by decide)) (Int32.not_lt.mpr q3)
            · exact z
          split
          · exact ih (k + 1) _ _ m0 m1 (fun z => by omega) (Or.inl (by omega))
          · exact ih (k + 1) _ _ m0 m1 (fun z => by omega) (Or.inl (by omega))
        · rw [if_neg q3]
          have k3 : k < 3 := by
            rcases Nat.lt_or_ge k 3 with z | z
            · exact z
            · exact absurd (nI_le (a := 3) (b := k) z (by omega)) q3
          obtain ⟨vw, V, hV, eV⟩ := hv (by omega)
          subst vw
          have V1 : V < 1000 := Nat.lt_of_lt_of_le hV (Nat.le_trans (Nat.pow_le_pow_right (by decide) (show k ≤ 3 by omega)) (by decide))
          obtain ⟨L, hL, eL⟩ := nI_of2 (x := rX8_letter rd0 (nI (p + k)) a12) (M := 57) (n := 57) rfl (Int32.not_lt.mpr (Int32.le_trans (by decide) fo.1)) fo.2
          have L48 : 48 ≤ L := by
            have := Int32.le_iff_toInt_le.mp fo.1
            rw [eL, nI_toInt (by omega)] at this
            have e : (48 : Int32).toInt = 48 := rfl
            omega
          have e1 : v * (10 : Int32) + rX8_letter rd0 (nI (p + k)) a12 - (48 : Int32) = nI (V * 10 + L - 48) := by
            rw [eV, eL, show nI V * (10 : Int32) = nI (V * 10) from pk_mul V 10, nI_add]
            exact pk_sub (b := 48) (by omega)
          have e2 : (10 : Int32) * v + rX8_letter rd0 (nI (p + k)) a12 - (48 : Int32) = nI (V * 10 + L - 48) := by
            rw [eV, eL, show (10 : Int32) * nI V = nI (10 * V) from pk_mul 10 V, nI_add]
            rw [show nI (10 * V + L) - (48 : Int32) = nI (10 * V + L - 48) from pk_sub (b := 48) (by omega)]
            congr 1; omega
          have v10 : v ≤ 10000 := by rw [eV]; exact nI_le (b := 10000) (by omega) (by decide)
          rw [if_pos v10, e1, e2]
          refine ih (k + 1) _ _ m0 m1 (fun _ => ⟨rfl, _, ?_, rfl⟩) (Or.inl (by omega))
          rw [Nat.pow_succ]
          omega
/-- a number is read alike -/
theorem num_eq (hT : TX rd0 a11 a12) {a1 a4 a13 a15 p0 p1 : Int32} (h1 : 0 ≤ a1) (h240 : a1 ≤ 240) : NumR (rX8_readNumber rd0 a1 a12 0 a4 p0 p1) (sX8_readNumber_1 rd0 a1 a12 0 a4 p0 p1) (sX8_readNumber_3 rd0 a1 a12 0 a4 p0 p1) (sX8_readNumber_4 rd0 a1 a12 0 a4 p0 p1) (rX10_takeNumber a11 a12 a13 a1 p0 p1) (sX10_takeNumber_13 a11 a12 a13 a1 p0 p1) (sX10_takeNumber_14 a11 a12 a13 a1 p0 p1) (sX10_takeNumber_15 a11 a12 a13 a1 a15 p0 p1) a4 a13 p0 p1 := by
  have hn := here_nn (a11 := a11) h1 hT.2.2.1
  have hb := here_ub (a11 := a11) h1 h240 hT.2.2.1
  rw [here_e hT h1] at hn hb
  obtain ⟨p, hp, ep⟩ := nI_of2 (M := 240) (n := 240) rfl (Int32.not_lt.mpr hn) hb
  unfold rX8_readNumber sX8_readNumber_1 sX8_readNumber_3 sX8_readNumber_4 rX10_takeNumber sX10_takeNumber_13 sX10_takeNumber_14 sX10_takeNumber_15
  simp only [here_r hT h1, fig_iff]
  by_cases q : rX8_isFigure (rX8_letter rd0 (sX8_skipBlanks_1 rd0 a1 a12) a12) = 0
  · simp only [if_pos q, here_e hT h1]
    rw [aX8_readNumber_12]
    have n1 : (1 : Int32) ≠ 0 := by decide
    by_cases q2 : a12 ≤ sX8_skipBlanks_1 rd0 a1 a12
    · simp only [if_pos q2, if_true]
      exact ⟨rfl, fun e => absurd e n1, fun _ => ⟨note3_0, note4_0 (a := a4)⟩⟩
    · simp only [if_neg q2, if_pos q, if_true]
      exact ⟨rfl, fun e => absurd e n1, fun _ => ⟨note3_0, note4_0 (a := a4)⟩⟩
  · simp only [if_neg q, here_e hT h1]
    have q2 : ¬ a12 ≤ sX8_skipBlanks_1 rd0 a1 a12 := fun e => by
      rw [let_out e] at q
      exact q (by decide)
    have := num12 hT (a4 := a4) (a13 := a13) (p0 := p0) (p1 := p1) h1 ep hp 241 0 0 0 (by omega) (by omega) (fun _ => ⟨rfl, 0, by decide, rfl⟩) (Or.inr (by rw [Nat.add_zero, ← ep]; exact ⟨q2, q⟩))
    rw [Nat.add_zero, ← ep] at this
    exact this
/-- once there is a fault it stays -/
theorem rn_st0 {a1 a3 a4 p0 p1 : Int32} (h : a3 ≠ 0) : ∀ (n : Nat) (v x : Int32), (aX8_readNumber_12 rd0 a1 a12 a3 a4 p0 p1 n v x).2.2.1 = a3 ∧ (aX8_readNumber_12 rd0 a1 a12 a3 a4 p0 p1 n v x).2.2.2 = a4 := by
  intro n
  induction n with
  | zero => intro v x; exact ⟨rfl, rfl⟩
  | succ n ih =>
    intro v x
    rw [aX8_readNumber_12]
    simp only [note3_s h, note4_s h]
    repeat' split
    all_goals first | exact ⟨rfl, rfl⟩ | exact ih _ _
theorem rn_st {a1 a3 a4 p0 p1 : Int32} (h : a3 ≠ 0) : sX8_readNumber_3 rd0 a1 a12 a3 a4 p0 p1 = a3 ∧ sX8_readNumber_4 rd0 a1 a12 a3 a4 p0 p1 = a4 := rn_st0 h _ _ _
theorem de_st {a1 a3 a4 : Int32} (h : a3 ≠ 0) : sX8_demandEnd_3 rd0 a1 a12 a3 = a3 ∧ sX8_demandEnd_4 rd0 a1 a12 a3 a4 = a4 := by
  unfold sX8_demandEnd_3 sX8_demandEnd_4
  simp only [note3_s h, note4_s h, ite_self]
  exact ⟨trivial, trivial⟩
end PARSE1
