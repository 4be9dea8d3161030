set_option maxRecDepth 100000 in
theorem or_bit11 : ∀ n : Nat, n < 2048 → nI n ||| ((1 : Int32) <<< (nI 11 &&& 31)) = nI (n + 2048) := by decide +kernel
theorem open_lt {a0 : Int32} {a1 a5 a7 a9 : Nat → Int32} {p0 : Int32} : ∀ k : Nat, k ≤ 12 → ∃ n : Nat, n < 2 ^ k ∧ aX10_openSet_4 a0 a1 a5 a7 a9 p0 k = nI n := by
  intro k
  induction k with
  | zero => intro _; exact ⟨0, by decide, rfl⟩
  | succ k ih =>
    intro hk
    obtain ⟨n, h1, h2⟩ := ih (by omega)
    have p2 : 2 ^ (k + 1) = 2 ^ k + 2 ^ k := by rw [Nat.pow_succ]; omega
    rw [aX10_openSet_4, h2]
    by_cases q : rX10_isOpen a0 a1 a5 a7 a9 p0 (nI k) = 0
    · rw [if_pos q]
      refine ⟨n, by omega, ?_⟩
      exact Int32.or_zero
    · rw [if_neg q]
      refine ⟨n + 2 ^ k, by omega, ?_⟩
      by_cases e : k < 11
      · exact or_bit k e n h1
      · have e2 : k = 11 := by omega
        subst e2
        exact or_bit11 n h1
