def chkB (n l b : Nat) : Bool :=
  let room := aX7_lookAtAlone_6 (nI n) (l - 1)
  let o := decide (((((((1 : Int32) <<< (nI l &&& 31)) - (1 : Int32)) <<< (nI b &&& 31)) &&& (nI n ^^^ (-1 : Int32)))) = 0)
  (decide (((room >>> (nI b &&& 31)) &&& (1 : Int32)) = 0) == !o) && (!o || (decide (b + l ≤ 12) && decide (rJ6_numberOfTrailingZeros_0f7a4 room ≤ nI b) && decide (0 ≤ rJ6_numberOfTrailingZeros_0f7a4 room)))
set_option maxRecDepth 100000 in
theorem chk_1_0 : ∀ i : Nat, i < 8 → ∀ j : Nat, j < 64 → ∀ b : Nat, b < 12 → chkB (512 * 0 + (64 * i + j)) 1 b = true := by decide +kernel
set_option maxRecDepth 100000 in
theorem chk_1_1 : ∀ i : Nat, i < 8 → ∀ j : Nat, j < 64 → ∀ b : Nat, b < 12 → chkB (512 * 1 + (64 * i + j)) 1 b = true := by decide +kernel
set_option maxRecDepth 100000 in
theorem chk_1_2 : ∀ i : Nat, i < 8 → ∀ j : Nat, j < 64 → ∀ b : Nat, b < 12 → chkB (512 * 2 + (64 * i + j)) 1 b = true := by decide +kernel
set_option maxRecDepth 100000 in
theorem chk_1_3 : ∀ i : Nat, i < 8 → ∀ j : Nat, j < 64 → ∀ b : Nat, b < 12 → chkB (512 * 3 + (64 * i + j)) 1 b = true := by decide +kernel
set_option maxRecDepth 100000 in
theorem chk_1_4 : ∀ i : Nat, i < 8 → ∀ j : Nat, j < 64 → ∀ b : Nat, b < 12 → chkB (512 * 4 + (64 * i + j)) 1 b = true := by decide +kernel
set_option maxRecDepth 100000 in
theorem chk_1_5 : ∀ i : Nat, i < 8 → ∀ j : Nat, j < 64 → ∀ b : Nat, b < 12 → chkB (512 * 5 + (64 * i + j)) 1 b = true := by decide +kernel
set_option maxRecDepth 100000 in
theorem chk_1_6 : ∀ i : Nat, i < 8 → ∀ j : Nat, j < 64 → ∀ b : Nat, b < 12 → chkB (512 * 6 + (64 * i + j)) 1 b = true := by decide +kernel
set_option maxRecDepth 100000 in
theorem chk_1_7 : ∀ i : Nat, i < 8 → ∀ j : Nat, j < 64 → ∀ b : Nat, b < 12 → chkB (512 * 7 + (64 * i + j)) 1 b = true := by decide +kernel
set_option maxRecDepth 100000 in
theorem chk_2_0 : ∀ i : Nat, i < 8 → ∀ j : Nat, j < 64 → ∀ b : Nat, b < 12 → chkB (512 * 0 + (64 * i + j)) 2 b = true := by decide +kernel
set_option maxRecDepth 100000 in
theorem chk_2_1 : ∀ i : Nat, i < 8 → ∀ j : Nat, j < 64 → ∀ b : Nat, b < 12 → chkB (512 * 1 + (64 * i + j)) 2 b = true := by decide +kernel
set_option maxRecDepth 100000 in
theorem chk_2_2 : ∀ i : Nat, i < 8 → ∀ j : Nat, j < 64 → ∀ b : Nat, b < 12 → chkB (512 * 2 + (64 * i + j)) 2 b = true := by decide +kernel
set_option maxRecDepth 100000 in
theorem chk_2_3 : ∀ i : Nat, i < 8 → ∀ j : Nat, j < 64 → ∀ b : Nat, b < 12 → chkB (512 * 3 + (64 * i + j)) 2 b = true := by decide +kernel
set_option maxRecDepth 100000 in
theorem chk_2_4 : ∀ i : Nat, i < 8 → ∀ j : Nat, j < 64 → ∀ b : Nat, b < 12 → chkB (512 * 4 + (64 * i + j)) 2 b = true := by decide +kernel
set_option maxRecDepth 100000 in
theorem chk_2_5 : ∀ i : Nat, i < 8 → ∀ j : Nat, j < 64 → ∀ b : Nat, b < 12 → chkB (512 * 5 + (64 * i + j)) 2 b = true := by decide +kernel
set_option maxRecDepth 100000 in
theorem chk_2_6 : ∀ i : Nat, i < 8 → ∀ j : Nat, j < 64 → ∀ b : Nat, b < 12 → chkB (512 * 6 + (64 * i + j)) 2 b = true := by decide +kernel
set_option maxRecDepth 100000 in
theorem chk_2_7 : ∀ i : Nat, i < 8 → ∀ j : Nat, j < 64 → ∀ b : Nat, b < 12 → chkB (512 * 7 + (64 * i + j)) 2 b = true := by decide +kernel
set_option maxRecDepth 100000 in
theorem chk_3_0 : ∀ i : Nat, i < 8 → ∀ j : Nat, j < 64 → ∀ b : Nat, b < 12 → chkB (512 * 0 + (64 * i + j)) 3 b = true := by decide +kernel
set_option maxRecDepth 100000 in
theorem chk_3_1 : ∀ i : Nat, i < 8 → ∀ j : Nat, j < 64 → ∀ b : Nat, b < 12 → chkB (512 * 1 + (64 * i + j)) 3 b = true := by decide +kernel
set_option maxRecDepth 100000 in
theorem chk_3_2 : ∀ i : Nat, i < 8 → ∀ j : Nat, j < 64 → ∀ b : Nat, b < 12 → chkB (512 * 2 + (64 * i + j)) 3 b = true := by decide +kernel
set_option maxRecDepth 100000 in
theorem chk_3_3 : ∀ i : Nat, i < 8 → ∀ j : Nat, j < 64 → ∀ b : Nat, b < 12 → chkB (512 * 3 + (64 * i + j)) 3 b = true := by decide +kernel
set_option maxRecDepth 100000 in
theorem chk_3_4 : ∀ i : Nat, i < 8 → ∀ j : Nat, j < 64 → ∀ b : Nat, b < 12 → chkB (512 * 4 + (64 * i + j)) 3 b = true := by decide +kernel
set_option maxRecDepth 100000 in
theorem chk_3_5 : ∀ i : Nat, i < 8 → ∀ j : Nat, j < 64 → ∀ b : Nat, b < 12 → chkB (512 * 5 + (64 * i + j)) 3 b = true := by decide +kernel
set_option maxRecDepth 100000 in
theorem chk_3_6 : ∀ i : Nat, i < 8 → ∀ j : Nat, j < 64 → ∀ b : Nat, b < 12 → chkB (512 * 6 + (64 * i + j)) 3 b = true := by decide +kernel
set_option maxRecDepth 100000 in
theorem chk_3_7 : ∀ i : Nat, i < 8 → ∀ j : Nat, j < 64 → ∀ b : Nat, b < 12 → chkB (512 * 7 + (64 * i + j)) 3 b = true := by decide +kernel
set_option maxRecDepth 100000 in
theorem chk_4_0 : ∀ i : Nat, i < 8 → ∀ j : Nat, j < 64 → ∀ b : Nat, b < 12 → chkB (512 * 0 + (64 * i + j)) 4 b = true := by decide +kernel
set_option maxRecDepth 100000 in
theorem chk_4_1 : ∀ i : Nat, i < 8 → ∀ j : Nat, j < 64 → ∀ b : Nat, b < 12 → chkB (512 * 1 + (64 * i + j)) 4 b = true := by decide +kernel
set_option maxRecDepth 100000 in
theorem chk_4_2 : ∀ i : Nat, i < 8 → ∀ j : Nat, j < 64 → ∀ b : Nat, b < 12 → chkB (512 * 2 + (64 * i + j)) 4 b = true := by decide +kernel
set_option maxRecDepth 100000 in
theorem chk_4_3 : ∀ i : Nat, i < 8 → ∀ j : Nat, j < 64 → ∀ b : Nat, b < 12 → chkB (512 * 3 + (64 * i + j)) 4 b = true := by decide +kernel
set_option maxRecDepth 100000 in
theorem chk_4_4 : ∀ i : Nat, i < 8 → ∀ j : Nat, j < 64 → ∀ b : Nat, b < 12 → chkB (512 * 4 + (64 * i + j)) 4 b = true := by decide +kernel
set_option maxRecDepth 100000 in
theorem chk_4_5 : ∀ i : Nat, i < 8 → ∀ j : Nat, j < 64 → ∀ b : Nat, b < 12 → chkB (512 * 5 + (64 * i + j)) 4 b = true := by decide +kernel
set_option maxRecDepth 100000 in
theorem chk_4_6 : ∀ i : Nat, i < 8 → ∀ j : Nat, j < 64 → ∀ b : Nat, b < 12 → chkB (512 * 6 + (64 * i + j)) 4 b = true := by decide +kernel
set_option maxRecDepth 100000 in
theorem chk_4_7 : ∀ i : Nat, i < 8 → ∀ j : Nat, j < 64 → ∀ b : Nat, b < 12 → chkB (512 * 7 + (64 * i + j)) 4 b = true := by decide +kernel
