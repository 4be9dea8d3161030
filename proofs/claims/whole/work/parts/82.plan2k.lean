/-- the mask test of the reference: no hour of b .. b + l - 1 is missing in the set x -/
def plM (x a : Int32) (b : Nat) : Int32 := (((((1 : Int32) <<< (a &&& 31)) - (1 : Int32)) <<< (nI b &&& 31)) &&& (x ^^^ (-1 : Int32)))
theorem chk_out {A O P Q R : Prop} [Decidable A] [Decidable O] [Decidable P] [Decidable Q] [Decidable R] (h : ((decide A == !decide O) && (!decide O || (decide P && decide Q && decide R))) = true) : (A ↔ ¬ O) ∧ (O → P ∧ Q ∧ R) := by
  simp only [Bool.and_eq_true, Bool.or_eq_true, beq_iff_eq, Bool.not_eq_true', decide_eq_true_eq, decide_eq_false_iff_not] at h
  obtain ⟨h3, h4⟩ := h
  refine ⟨?_, fun o => ?_⟩
  · by_cases a : A
    · by_cases o : O
      · rw [decide_eq_true a, decide_eq_true o] at h3; exact absurd h3 (by decide)
      · exact ⟨fun _ => o, fun _ => a⟩
    · by_cases o : O
      · exact ⟨fun y => absurd y a, fun y => absurd o y⟩
      · rw [decide_eq_false a, decide_eq_false o] at h3; exact absurd h3 (by decide)
  · rcases h4 with h4 | h4
    · exact absurd o h4
    · exact ⟨h4.1.1, h4.1.2, h4.2⟩
theorem chk_all {n l b : Nat} (hn : n < 4096) (h1 : 1 ≤ l) (h4 : l ≤ 4) (hb : b < 12) : chkB n l b = true := by
  obtain ⟨q, i, j, q8, i8, j64, e⟩ : ∃ q i j : Nat, q < 8 ∧ i < 8 ∧ j < 64 ∧ n = 512 * q + (64 * i + j) := ⟨n / 512, n % 512 / 64, n % 64, by omega, by omega, by omega, by omega⟩
  subst e
  obtain rfl | rfl | rfl | rfl | rfl | rfl | rfl | rfl : q = 0 ∨ q = 1 ∨ q = 2 ∨ q = 3 ∨ q = 4 ∨ q = 5 ∨ q = 6 ∨ q = 7 := by omega
  · obtain rfl | rfl | rfl | rfl : l = 1 ∨ l = 2 ∨ l = 3 ∨ l = 4 := by omega
    · exact chk_1_0 i i8 j j64 b hb
    · exact chk_2_0 i i8 j j64 b hb
    · exact chk_3_0 i i8 j j64 b hb
    · exact chk_4_0 i i8 j j64 b hb
  · obtain rfl | rfl | rfl | rfl : l = 1 ∨ l = 2 ∨ l = 3 ∨ l = 4 := by omega
    · exact chk_1_1 i i8 j j64 b hb
    · exact chk_2_1 i i8 j j64 b hb
    · exact chk_3_1 i i8 j j64 b hb
    · exact chk_4_1 i i8 j j64 b hb
  · obtain rfl | rfl | rfl | rfl : l = 1 ∨ l = 2 ∨ l = 3 ∨ l = 4 := by omega
    · exact chk_1_2 i i8 j j64 b hb
    · exact chk_2_2 i i8 j j64 b hb
    · exact chk_3_2 i i8 j j64 b hb
    · exact chk_4_2 i i8 j j64 b hb
  · obtain rfl | rfl | rfl | rfl : l = 1 ∨ l = 2 ∨ l = 3 ∨ l = 4 := by omega
    · exact chk_1_3 i i8 j j64 b hb
    · exact chk_2_3 i i8 j j64 b hb
    · exact chk_3_3 i i8 j j64 b hb
    · exact chk_4_3 i i8 j j64 b hb
  · obtain rfl | rfl | rfl | rfl : l = 1 ∨ l = 2 ∨ l = 3 ∨ l = 4 := by omega
    · exact chk_1_4 i i8 j j64 b hb
    · exact chk_2_4 i i8 j j64 b hb
    · exact chk_3_4 i i8 j j64 b hb
    · exact chk_4_4 i i8 j j64 b hb
  · obtain rfl | rfl | rfl | rfl : l = 1 ∨ l = 2 ∨ l = 3 ∨ l = 4 := by omega
    · exact chk_1_5 i i8 j j64 b hb
    · exact chk_2_5 i i8 j j64 b hb
    · exact chk_3_5 i i8 j j64 b hb
    · exact chk_4_5 i i8 j j64 b hb
  · obtain rfl | rfl | rfl | rfl : l = 1 ∨ l = 2 ∨ l = 3 ∨ l = 4 := by omega
    · exact chk_1_6 i i8 j j64 b hb
    · exact chk_2_6 i i8 j j64 b hb
    · exact chk_3_6 i i8 j j64 b hb
    · exact chk_4_6 i i8 j j64 b hb
  · obtain rfl | rfl | rfl | rfl : l = 1 ∨ l = 2 ∨ l = 3 ∨ l = 4 := by omega
    · exact chk_1_7 i i8 j j64 b hb
    · exact chk_2_7 i i8 j j64 b hb
    · exact chk_3_7 i i8 j j64 b hb
    · exact chk_4_7 i i8 j j64 b hb
theorem bits2 {n l b : Nat} (hn : n < 4096) (h1 : 1 ≤ l) (h4 : l ≤ 4) (hb : b < 12) : ((((aX7_lookAtAlone_6 (nI n) (l - 1)) >>> (nI b &&& 31)) &&& (1 : Int32)) = 0 ↔ ¬ plM (nI n) (nI l) b = 0) ∧ (plM (nI n) (nI l) b = 0 → b + l ≤ 12 ∧ rJ6_numberOfTrailingZeros_0f7a4 (aX7_lookAtAlone_6 (nI n) (l - 1)) ≤ nI b ∧ 0 ≤ rJ6_numberOfTrailingZeros_0f7a4 (aX7_lookAtAlone_6 (nI n) (l - 1))) := chk_out (chk_all hn h1 h4 hb)
theorem nI_land (a b : Nat) : nI a &&& nI b = nI (a &&& b) := (congrArg Int32.ofBitVec (BitVec.ofNat_and (w := 32) (x := a) (y := b))).symm
theorem room_le {n : Nat} (hn : n < 4096) : ∀ k : Nat, k ≤ 3 → ∃ r : Nat, r ≤ n ∧ aX7_lookAtAlone_6 (nI n) k = nI r := by
  intro k
  induction k with
  | zero => intro _; exact ⟨n, Nat.le_refl _, rfl⟩
  | succ k ih =>
    intro hk
    obtain ⟨r, h1, h2⟩ := ih (by omega)
    rw [aX7_lookAtAlone_6, h2, pk_shrN (by omega) _ (k + 1) (sh31 (k + 1) (by omega)), nI_land]
    exact ⟨_, Nat.le_trans Nat.and_le_left h1, rfl⟩
set_option maxRecDepth 100000 in
theorem tz_all : ∀ i : Nat, i < 64 → ∀ j : Nat, j < 64 → 0 ≤ rJ6_numberOfTrailingZeros_0f7a4 (nI (64 * i + j)) ∧ rJ6_numberOfTrailingZeros_0f7a4 (nI (64 * i + j)) ≤ 40 := by decide +kernel
theorem tz_room {n k : Nat} (hn : n < 4096) (hk : k ≤ 3) : ∃ t : Nat, t ≤ 40 ∧ rJ6_numberOfTrailingZeros_0f7a4 (aX7_lookAtAlone_6 (nI n) k) = nI t := by
  obtain ⟨r, h1, h2⟩ := room_le hn k hk
  have z := tz_all (r / 64) (by omega) (r % 64) (by omega)
  rw [Nat.div_add_mod r 64] at z
  rw [h2]
  exact ⟨_, clampLe (n := 40) (b := 40) rfl z.1 z.2, clampEq z.1⟩
theorem zero_bit : ∀ b : Nat, b < 12 → ((((0 : Int32) >>> (nI b &&& 31)) &&& (1 : Int32)) = 0) := by decide
theorem look7 {n l e : Nat} (hn : n < 4096) (h1 : 1 ≤ l) (h4 : l ≤ 4) (he : e < 100) : ∃ f : Nat, sX7_lookAtAlone_7 (nI e) (nI l) (nI n) = nI f ∧ f < 100 ∧ ∀ b : Nat, b < 12 → plM (nI n) (nI l) b = 0 → f ≤ max e (b + l) := by
  have B := fun b (hb : b < 12) => bits2 hn h1 h4 hb
  obtain ⟨t, t1, t2⟩ := tz_room (k := l - 1) hn (by omega)
  unfold sX7_lookAtAlone_7
  rw [nI_clamp (show l < 2 ^ 31 by omega)]
  obtain ⟨R, hR⟩ : ∃ R, R = aX7_lookAtAlone_6 (nI n) (l - 1) := ⟨_, rfl⟩
  rw [← hR] at B t2 ⊢
  by_cases q : R = 0
  · rw [if_pos q]
    have no : ∀ b : Nat, b < 12 → ¬ plM (nI n) (nI l) b = 0 := fun b hb => (B b hb).1.mp (by rw [q]; exact zero_bit b hb)
    by_cases y : nI e < (13 : Int32)
    · rw [if_pos y]
      exact ⟨13, rfl, by decide, fun b hb z => absurd z (no b hb)⟩
    · rw [if_neg y]
      exact ⟨e, rfl, he, fun b hb z => absurd z (no b hb)⟩
  · rw [if_neg q, t2, nI_add]
    have le : ∀ b : Nat, b < 12 → plM (nI n) (nI l) b = 0 → t ≤ b := fun b hb z => by
      have w := ((B b hb).2 z).2.1
      rw [t2] at w
      exact (n_le (by omega) (by omega)).mp w
    by_cases y : nI e < nI (t + l)
    · rw [if_pos y]
      exact ⟨t + l, rfl, by omega, fun b hb z => by have := le b hb z; omega⟩
    · rw [if_neg y]
      exact ⟨e, rfl, he, fun b hb z => by omega⟩
