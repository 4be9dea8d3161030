section EQ9
variable {dy0 dy1 dy2 dy3 dy4 a9 : Nat → Int32} {dy5 : Int32} {hu ca : Nat}
theorem keep15 {a37 : Nat → Int32} {i : Nat} (hi : i < 2) : ∀ k : Nat, k ≤ 23 → ∀ m : Nat, aX10_keep_15 a9 a37 (nI i) k m = if 24 * i ≤ m ∧ m < 24 * i + k then a9 (m - 24 * i) else a37 m := by
  intro k
  induction k with
  | zero => intro _ m; rw [aX10_keep_15, if_neg (by omega)]
  | succ k ih =>
    intro hk m
    have ih := ih (by omega)
    rw [aX10_keep_15, show (24 : Int32) * nI i = nI (24 * i) from pk_mul 24 i, nI_add, nI_clamp (by omega), nI_clamp (by omega)]
    by_cases e : m = 24 * i + k
    · subst e
      rw [up_s, if_pos (by omega)]; exact congrArg a9 (by omega)
    · rw [up_n e, ih]
      by_cases q : 24 * i ≤ m ∧ m < 24 * i + k
      · rw [if_pos q, if_pos (by omega)]
      · rw [if_neg q, if_neg (by omega)]
theorem RP_0 {pa0 a27 : Nat → Int32} {pa1 pa2 a26 : Int32} (hP : RP hu ca pa0 pa1 pa2 a26 a27) : RP hu ca pa0 pa1 0 0 a27 := ⟨rfl, by decide, by decide, hP.2.2.2.1, hP.2.2.2.2.1, fun i hi => absurd hi (Nat.not_lt_zero _)⟩
theorem e_keep {pa0 a27 im0 im1 im2 a37 a38 : Nat → Int32} {pa1 pa2 a26 dr0 a10 p0 : Int32} (hc5 : ca ≤ 5) (hD : RD dy0 dy1 dy2 dy3 dy4 dy5 a9) (hI : DI hu ca 9060 a9) (hP : RP hu ca pa0 pa1 pa2 a26 a27) (hM : RI hu ca im0 im1 im2 a37 a38) (hS : dr0 = a10) (s0 : 0 ≤ a10) : rX9_keep p0 = rX10_keep p0 ∧ RP hu ca pa0 pa1 (sX9_keep_o2_2 pa2 p0) (sX10_keep_26 a26 p0) a27 ∧ RI hu ca (sX9_keep_o3_0 dy0 dy1 dy2 dy3 dy4 dy5 im0 p0) (sX9_keep_o3_1 im1 dr0 p0) (sX9_keep_o3_2 im2 p0) (sX10_keep_37 a9 a10 a37 p0) (sX10_keep_38 a38 p0) := by
  subst hS
  unfold rX9_keep rX10_keep sX9_keep_o2_2 sX10_keep_26 sX9_keep_o3_0 sX9_keep_o3_1 sX9_keep_o3_2 sX10_keep_37 sX10_keep_38
  have hd : rX10_in p0.toInt64 0 1 = 0 ↔ ¬ rX9_isNoImage p0 = 0 := out_iff rfl rfl
  simp only [hd]
  by_cases q : rX9_isNoImage p0 = 0
  · simp only [if_pos q, if_neg (not_not_intro q)]
    have r := isNI q
    obtain ⟨i, hi, rfl⟩ := nI_of2 (M := 1) (n := 1) rfl (Int32.not_lt.mpr r.1) r.2
    refine ⟨trivial, RP_0 hP, ?_⟩
    unfold sX5_take_0 sX5_take_1 sX5_take_2
    rw [show nI i * (23 : Int32) = nI (i * 23) from pk_mul i 23, kc i (by omega), show (24 : Int32) * nI i = nI (24 * i) from pk_mul 24 i, show nI (24 * i) + (23 : Int32) = nI (24 * i + 23) from nI_add _ 23, kc (24 * i + 23) (by omega)]
    intro j hj
    by_cases e : j = i
    · subst e
      rw [up_s, up_s]
      refine ⟨rfl, Or.inr rfl, fun _ => ⟨fun k hk => ?_, ?_, ?_, ?_⟩⟩
      · rw [save_at hD (by omega), if_pos (by omega), up_n (by omega), keep15 (by omega) 23 (Nat.le_refl _), if_pos (by omega)]
        exact congrArg a9 (by omega)
      · rw [up_s, up_s]
      · rw [up_s]; exact s0
      · refine DI_congr (fun k hk => ?_) hc5 hI
        rw [up_n (by omega), keep15 (by omega) 23 (Nat.le_refl _), if_pos (by omega)]
        exact congrArg a9 (by omega)
    · have m := hM j hj
      rw [up_n e, up_n e]
      refine ⟨m.1, m.2.1, fun z => ?_⟩
      have m2 := m.2.2 z
      refine ⟨fun k hk => ?_, ?_, ?_, ?_⟩
      · rw [save_at hD (by omega), if_neg (by omega), up_n (by omega), keep15 (by omega) 23 (Nat.le_refl _), if_neg (by omega)]
        exact m2.1 k hk
      · rw [up_n e, up_n (by omega), keep15 (by omega) 23 (Nat.le_refl _), if_neg (by omega)]
        exact m2.2.1
      · rw [up_n (by omega), keep15 (by omega) 23 (Nat.le_refl _), if_neg (by omega)]
        exact m2.2.2.1
      · refine DI_congr (fun k hk => ?_) hc5 m2.2.2.2
        rw [up_n (by omega), keep15 (by omega) 23 (Nat.le_refl _), if_neg (by omega)]
  · simp only [if_neg q, if_pos q, not_false_eq_true, if_true]
    exact ⟨trivial, hP, hM⟩
theorem back27 {a37 : Nat → Int32} {i : Nat} (hi : i < 2) : ∀ k : Nat, k ≤ 23 → ∀ m : Nat, aX10_goBack_27 a9 a37 (nI i) k m = if m < k then a37 (24 * i + m) else a9 m := by
  intro k
  induction k with
  | zero => intro _ m; rw [aX10_goBack_27, if_neg (by omega)]
  | succ k ih =>
    intro hk m
    have ih := ih (by omega)
    rw [aX10_goBack_27, show (24 : Int32) * nI i = nI (24 * i) from pk_mul 24 i, nI_add, nI_clamp (by omega), nI_clamp (by omega)]
    by_cases e : m = k
    · subst e
      rw [up_s, if_pos (by omega)]
    · rw [up_n e, ih]
      by_cases q : m < k
      · rw [if_pos q, if_pos (by omega)]
      · rw [if_neg q, if_neg (by omega)]
theorem e_goBack {pa0 a27 im0 im1 im2 a37 a38 : Nat → Int32} {pa1 pa2 a26 dr0 a10 p0 : Int32} (hc5 : ca ≤ 5) (hD : RD dy0 dy1 dy2 dy3 dy4 dy5 a9) (hI : DI hu ca 9060 a9) (hP : RP hu ca pa0 pa1 pa2 a26 a27) (hM : RI hu ca im0 im1 im2 a37 a38) (hS : dr0 = a10) (s0 : 0 ≤ a10) : rX9_goBack im2 p0 = rX10_goBack a38 p0 ∧ RD (sX9_goBack_o1_0 dy0 im0 im2 p0) (sX9_goBack_o1_1 dy1 im0 im2 p0) (sX9_goBack_o1_2 dy2 im0 im2 p0) (sX9_goBack_o1_3 dy3 im0 im2 p0) (sX9_goBack_o1_4 dy4 im0 im2 p0) (sX9_goBack_o1_5 dy5 im0 im2 p0) (sX10_goBack_9 a9 a37 a38 p0) ∧ DI hu ca 9060 (sX10_goBack_9 a9 a37 a38 p0) ∧ RP hu ca pa0 pa1 (sX9_goBack_o2_2 pa2 im2 p0) (sX10_goBack_26 a26 a38 p0) a27 ∧ sX9_goBack_o7_0 im1 im2 dr0 p0 = sX10_goBack_10 a10 a37 a38 p0 ∧ 0 ≤ sX10_goBack_10 a10 a37 a38 p0 := by
  subst hS
  unfold rX9_goBack rX10_goBack sX9_goBack_o1_0 sX9_goBack_o1_1 sX9_goBack_o1_2 sX9_goBack_o1_3 sX9_goBack_o1_4 sX9_goBack_o1_5 sX10_goBack_9 sX9_goBack_o2_2 sX10_goBack_26 sX9_goBack_o7_0 sX10_goBack_10
  have hd : rX10_in p0.toInt64 0 1 = 0 ↔ ¬ rX9_isNoImage p0 = 0 := out_iff rfl rfl
  simp only [hd]
  by_cases q : rX9_isNoImage p0 = 0
  · simp only [if_pos q, if_neg (not_not_intro q)]
    have r := isNI q
    obtain ⟨i, hi, rfl⟩ := nI_of2 (M := 1) (n := 1) rfl (Int32.not_lt.mpr r.1) r.2
    have m := hM i (by omega)
    rw [kc i (by omega), m.1]
    by_cases z : a38 i = 0
    · simp only [if_pos z]
      exact ⟨trivial, hD, hI, hP, trivial, s0⟩
    · simp only [if_neg z]
      have z1 : a38 i = 1 := m.2.1.resolve_left z
      have m2 := m.2.2 z1
      have hrow : ∀ k : Nat, k < 23 → im0 (i * 23 + k) = aX10_goBack_27 a9 a37 (nI i) 23 k := fun k hk => by
        rw [back27 (by omega) 23 (Nat.le_refl _), if_pos hk, ← m2.1 k hk]
        exact congrArg im0 (by omega)
      have hDI : DI hu ca 9060 (aX10_goBack_27 a9 a37 (nI i) 23) := DI_congr (fun k hk => by rw [back27 (by omega) 23 (Nat.le_refl _), if_pos hk]) hc5 m2.2.2.2
      unfold sX5_show_arg1_0 sX5_show_arg1_1 sX5_show_arg1_2 sX5_show_arg1_3 sX5_show_arg1_4 sX5_show_arg1_5
      rw [show nI i * (23 : Int32) = nI (i * 23) from pk_mul i 23, show (24 : Int32) * nI i = nI (24 * i) from pk_mul 24 i, show nI (24 * i) + (23 : Int32) = nI (24 * i + 23) from nI_add _ 23, kc (24 * i + 23) (by omega)]
      exact ⟨trivial, load_rd (by omega) hrow, hDI, RP_0 hP, m2.2.1, m2.2.2.1⟩
  · simp only [if_neg q, if_pos q, not_false_eq_true, if_true]
    exact ⟨trivial, hD, hI, hP, trivial, s0⟩
/-- how many of the first d numbers are in a set -/
def pcs (n : Nat) : Nat → Nat
  | 0 => 0
  | d + 1 => pcs n d + n / 2 ^ d % 2
theorem pcs_le (n : Nat) : ∀ d : Nat, pcs n d ≤ d
  | 0 => Nat.le_refl _
  | d + 1 => by rw [pcs]; have := pcs_le n d; have := Nat.mod_lt (n / 2 ^ d) (show 0 < 2 by decide); omega
theorem sh31 : ∀ n : Nat, n < 31 → ((nI n &&& 31).toBitVec.smod 32).toNat = n := by decide +kernel
theorem bit1 {n k : Nat} (hn : n < 2048) (hk : k < 31) : (nI n >>> (nI k &&& 31)) &&& (1 : Int32) = nI (n / 2 ^ k % 2) := by
  rw [pk_shrN (by omega) _ k (sh31 k hk)]
  have : n / 2 ^ k ≤ n := Nat.div_le_self _ _
  exact pk_andN (by omega) 1 rfl
set_option maxRecDepth 100000 in
theorem bc2048 : ∀ n : Nat, n < 2048 → rJ6_bitCount_0f7a4 (nI n) = nI (pcs n 11) := by decide +kernel
theorem pcs_mod {n k : Nat} : ∀ d : Nat, d ≤ k → pcs (n % 2 ^ k) d = pcs n d := by
  intro d
  induction d with
  | zero => intro _; rfl
  | succ d ih =>
    intro hd
    rw [pcs, pcs, ih (by omega)]
    have e : n % 2 ^ k / 2 ^ d % 2 = n / 2 ^ d % 2 := by
      have h1 : (n % 2 ^ k).testBit d = n.testBit d := by
        rw [Nat.testBit_mod_two_pow]
        simp [show d < k by omega]
      have f : ∀ m : Nat, m / 2 ^ d % 2 = if m.testBit d then 1 else 0 := fun m => by
        rw [Nat.testBit_eq_decide_div_mod_eq]
        by_cases z : m / 2 ^ d % 2 = 1
        · simp [z]
        · have := Nat.mod_lt (m / 2 ^ d) (show 0 < 2 by decide)
          simp [z]
          omega
      rw [f, f, h1]
    rw [e]
theorem pcs_top {m : Nat} : ∀ j k : Nat, m < 2 ^ k → pcs m (k + j) = pcs m k := by
  intro j
  induction j with
  | zero => intro k _; rfl
  | succ j ih =>
    intro k hk
    rw [show k + (j + 1) = k + j + 1 by omega, pcs, ih k hk]
    have : m < 2 ^ (k + j) := Nat.lt_of_lt_of_le hk (Nat.pow_le_pow_right (by decide) (by omega))
    rw [Nat.div_eq_of_lt this]
    rfl
theorem mask_tn : ∀ k : Nat, k < 12 → (((1 : Int32) <<< (nI k &&& 31)) - (1 : Int32)).toBitVec.toNat = 2 ^ k - 1 := by decide +kernel
theorem bc_mask {n k : Nat} (hn : n < 2048) (hk : k ≤ 11) : rJ6_bitCount_0f7a4 (nI n &&& (((1 : Int32) <<< (nI k &&& 31)) - (1 : Int32))) = nI (pcs n k) := by
  rw [pk_andN (by omega) k (mask_tn k (by omega))]
  have hl : n % 2 ^ k < 2048 := Nat.lt_of_le_of_lt (Nat.mod_le _ _) hn
  rw [bc2048 _ hl, show 11 = k + (11 - k) by omega, pcs_top (11 - k) k (Nat.mod_lt _ (Nat.two_pow_pos k)), pcs_mod k (Nat.le_refl _)]
theorem or_bit : ∀ k : Nat, k < 11 → ∀ n : Nat, n < 2 ^ k → nI n ||| ((1 : Int32) <<< (nI k &&& 31)) = nI (n + 2 ^ k) := by decide +kernel
theorem set_lt {e0 e1 : Nat → Int32} {e2 : Int32} : ∀ k : Nat, k ≤ 11 → ∃ n : Nat, n < 2 ^ k ∧ aX4_allThatFits_4 e0 e1 e2 k = nI n := by
  intro k
  induction k with
  | zero => intro _; exact ⟨0, by decide, rfl⟩
  | succ k ih =>
    intro hk
    obtain ⟨n, hn, e⟩ := ih (by omega)
    rw [aX4_allThatFits_4, e]
    split
    · exact ⟨n, Nat.lt_of_lt_of_le hn (Nat.pow_le_pow_right (by decide) (by omega)), rfl⟩
    · exact ⟨n + 2 ^ k, by rw [Nat.pow_succ]; omega, or_bit k (by omega) n hn⟩
theorem e_listen {er0 er1 a32 a33 : Nat → Int32} {er2 a31 : Int32} (h : RE er0 er1 er2 a31 a32 a33) : rX9_listen er0 er1 er2 = rX10_listen a31 a32 a33 := by
  have eb : rX4_allThatFits er0 er1 er2 = rX10_bearsNow a31 a32 a33 := e_bears h
  obtain ⟨n, hn, en⟩ := set_lt (e0 := er0) (e1 := er1) (e2 := er2) 11 (Nat.le_refl _)
  have hn : n < 2048 := hn
  have eS : rX4_allThatFits er0 er1 er2 = nI n := en
  have eM : rX10_bearsNow a31 a32 a33 = nI n := by rw [← eb, eS]
  have f9 : ∀ k : Nat, k ≤ 11 → aX10_listen_9 a31 a32 a33 k = nI (pcs n k) := fun k => by
    induction k with
    | zero => intro _; rfl
    | succ k ih =>
      intro hk
      rw [aX10_listen_9, ih (by omega), eM, bit1 hn (by omega), nI_add]
      rfl
  have f50 : ∀ k : Nat, k ≤ 11 → aX10_listen_50 a31 a32 a33 k = nI (pcs n k) := fun k => by
    induction k with
    | zero => intro _; rfl
    | succ k ih =>
      intro hk
      rw [aX10_listen_50, ih (by omega), eM, bit1 hn (by omega), nI_add]
      rfl
  have main : ∀ k : Nat, k ≤ 11 → aX4_bestDepth_18 er0 er1 er2 k = aX10_listen_37 a31 a32 a33 (nI (pcs n 11)) k := fun k => by
    induction k with
    | zero =>
      intro _
      rw [aX4_bestDepth_18, aX10_listen_37, eS, bc2048 n hn]
    | succ k ih =>
      intro hk
      rw [aX4_bestDepth_18, aX10_listen_37, ih (by omega), eS, bc_mask hn (by omega), bc2048 n hn, f50 k (by omega)]
      generalize aX10_listen_37 a31 a32 a33 (nI (pcs n 11)) k = t
      generalize nI (pcs n 11) - nI (pcs n k) = v
      generalize nI (pcs n k) = u
      by_cases q : u ≤ v
      · rw [if_pos q]
        by_cases q2 : u < v
        · simp only [if_pos q2]
        · have : u = v := by grind
          subst this
          simp only [if_neg q2]
      · rw [if_neg q]
        have q2 : ¬ u < v := by grind
        simp only [if_neg q2]
  show (aX4_bestDepth_18 er0 er1 er2 11).1 = (aX10_listen_37 a31 a32 a33 (aX10_listen_9 a31 a32 a33 11) 11).1
  rw [f9 11 (Nat.le_refl _), main 11 (Nat.le_refl _)]
end EQ9
