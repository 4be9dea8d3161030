def chkB (n l b : Nat) : Bool :=
  let room := aX7_lookAtAlone_6 (nI n) (l - 1)
  let o := decide (((((((1 : Int32) <<< (nI l &&& 31)) - (1 : Int32)) <<< (nI b &&& 31)) &&& (nI n ^^^ (-1 : Int32)))) = 0)
  (decide (((room >>> (nI b &&& 31)) &&& (1 : Int32)) = 0) == !o) && (!o || (decide (b + l ≤ 12) && decide (rJ6_numberOfTrailingZeros_0f7a4 room ≤ nI b) && decide (0 ≤ rJ6_numberOfTrailingZeros_0f7a4 room)))
set_option maxRecDepth 100000 in
theorem chk_1 : ∀ i : Nat, i < 64 → ∀ j : Nat, j < 64 → ∀ b : Nat, b < 12 → chkB (64 * i + j) 1 b = true := by decide +kernel
set_option maxRecDepth 100000 in
theorem chk_2 : ∀ i : Nat, i < 64 → ∀ j : Nat, j < 64 → ∀ b : Nat, b < 12 → chkB (64 * i + j) 2 b = true := by decide +kernel
set_option maxRecDepth 100000 in
theorem chk_3 : ∀ i : Nat, i < 64 → ∀ j : Nat, j < 64 → ∀ b : Nat, b < 12 → chkB (64 * i + j) 3 b = true := by decide +kernel
set_option maxRecDepth 100000 in
theorem chk_4 : ∀ i : Nat, i < 64 → ∀ j : Nat, j < 64 → ∀ b : Nat, b < 12 → chkB (64 * i + j) 4 b = true := by decide +kernel
