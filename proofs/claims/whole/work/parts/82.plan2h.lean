def plU (wt : Nat → Bool) : Nat → Nat
  | 0 => 1
  | n + 1 => plU wt n * (if wt n = true then 12 else 1)
theorem plU_W {wt : Nat → Bool} : plU wt 5 = plW wt 5 0 := by
  show 1 * _ * _ * _ * _ * _ = _ * (_ * (_ * (_ * (_ * 1))))
  rw [Nat.one_mul, Nat.mul_one, Nat.mul_assoc, Nat.mul_assoc, Nat.mul_assoc]
theorem plU_le {wt : Nat → Bool} : ∀ n : Nat, plU wt n ≤ 12 ^ n := by
  intro n
  induction n with
  | zero => exact Nat.le_refl _
  | succ n ih =>
    show plU wt n * (if wt n = true then 12 else 1) ≤ 12 ^ n * 12
    split <;> omega
theorem plU_top {wt : Nat → Bool} {N : Nat} (h : ∀ j : Nat, N ≤ j → ¬ wt j = true) : ∀ d : Nat, plU wt (N + d) = plU wt N := by
  intro d
  induction d with
  | zero => rfl
  | succ d ih =>
    show plU wt (N + d) * (if wt (N + d) = true then 12 else 1) = _
    rw [if_neg (h (N + d) (by omega)), ih, Nat.mul_one]
theorem ways_U {a9 : Nat → Int32} {wt : Nat → Bool} {N : Nat} (hw : ∀ j : Nat, j < N → (a9 (12 + j) = 0 ↔ wt j = true)) (h5 : N ≤ 5) : ∀ n : Nat, n ≤ N → aX10_waysToBegin_4 a9 n = nI (plU wt n) := by
  intro n
  induction n with
  | zero => intro _; rfl
  | succ n ih =>
    intro hn
    have c12 : ((12 : Int32) + nI n).toNatClampNeg = 12 + n := by
      rw [show (12 : Int32) = nI 12 from rfl, nI_add, nI_clamp (by omega)]
    rw [aX10_waysToBegin_4, c12, ih (by omega)]
    show _ = nI (plU wt n * (if wt n = true then 12 else 1))
    by_cases w : wt n = true
    · rw [if_pos ((hw n (by omega)).mpr w), if_pos w]
      exact (Int32.ofNat_mul _ _).symm
    · rw [if_neg (fun y => w ((hw n (by omega)).mp y)), if_neg w]
      exact (Int32.ofNat_mul _ _).symm
theorem ways_W {a4 : Int32} {a9 : Nat → Int32} {wt : Nat → Bool} {N : Nat} (h4 : a4.toNatClampNeg = N) (hw : ∀ j : Nat, j < N → (a9 (12 + j) = 0 ↔ wt j = true)) (h5 : N ≤ 5) (ht : ∀ j : Nat, N ≤ j → ¬ wt j = true) : rX10_waysToBegin a4 a9 = nI (plW wt 5 0) ∧ plW wt 5 0 ≤ 248832 := by
  have e := plU_top ht (5 - N)
  rw [show N + (5 - N) = 5 by omega, plU_W] at e
  refine ⟨?_, by rw [← plU_W]; exact plU_le 5⟩
  unfold rX10_waysToBegin
  rw [h4, ways_U hw h5 N (Nat.le_refl _), e]
