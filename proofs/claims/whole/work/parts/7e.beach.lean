section BEACH
variable {rd0 a11 : Nat → Int32} {a12 : Int32}
set_option maxHeartbeats 4000000 in
/-- the whole text is read alike -/
theorem beach_loop (hT : TX rd0 a11 a12) : ∀ (n : Nat) (i x f p : Int32) (z0 z1 z2 z3 z4 z5 : Nat → Int32) (z6 z7 z8 t14 t15 t16 t17 : Int32) (t18 : Nat → Int32) (t19 : Int32) (t20 : Nat → Int32) (t21 : Int32) (t22 t23 t24 t25 : Nat → Int32), 0 ≤ i → ((240 : Nat) - i.toInt).toNat < n → 0 ≤ f → (f = 0 → 0 ≤ t14 ∧ x = sX8_skipBlanks_1 rd0 t14 a12 ∧ i ≤ x ∧ RB z0 z1 z2 z3 z4 z5 z6 z7 z8 t17 t18 t19 t20 t21 t22 t23 t24 t25) → ∀ C M, C = aX8_readInto_25 rd0 a12 n i x f p z0 z1 z2 z3 z4 z5 z6 z7 z8 → M = aX10_beach_27 a11 a12 (n + 2) f p t14 t15 t16 t17 t18 t19 t20 t21 t22 t23 t24 t25 → C.2.1 = 0 ∧ C.2.2.1 = M.1 ∧ C.2.2.2.1 = M.2.1 ∧ 0 ≤ M.1 ∧ (M.1 = 0 → RB (C.2.2.2.2.1) (C.2.2.2.2.2.1) (C.2.2.2.2.2.2.1) (C.2.2.2.2.2.2.2.1) (C.2.2.2.2.2.2.2.2.1) (C.2.2.2.2.2.2.2.2.2.1) (C.2.2.2.2.2.2.2.2.2.2.1) (C.2.2.2.2.2.2.2.2.2.2.2.1) (C.2.2.2.2.2.2.2.2.2.2.2.2) (M.2.2.2.2.2.1) (M.2.2.2.2.2.2.1) (M.2.2.2.2.2.2.2.1) (M.2.2.2.2.2.2.2.2.1) (M.2.2.2.2.2.2.2.2.2.1) (M.2.2.2.2.2.2.2.2.2.2.1) (M.2.2.2.2.2.2.2.2.2.2.2.1) (M.2.2.2.2.2.2.2.2.2.2.2.2.1) (M.2.2.2.2.2.2.2.2.2.2.2.2.2)) := by
  intro n
  induction n with
  | zero => intro i x f p z0 z1 z2 z3 z4 z5 z6 z7 z8 t14 t15 t16 t17 t18 t19 t20 t21 t22 t23 t24 t25 _ hm; exact absurd hm (Nat.not_lt_zero _)
  | succ n ih =>
    intro i x f p z0 z1 z2 z3 z4 z5 z6 z7 z8 t14 t15 t16 t17 t18 t19 t20 t21 t22 t23 t24 t25 i0 hm f0 hs C M hC hM
    rw [aX8_readInto_25] at hC
    rw [show n + 1 + 2 = (n + 2) + 1 by omega, aX10_beach_27] at hM
    -- both stop here
    have stop : C = (x, 0, f, p, z0, z1, z2, z3, z4, z5, z6, z7, z8) → (∃ w, M = (f, p, w, t15, t16, t17, t18, t19, t20, t21, t22, t23, t24, t25)) → C.2.1 = 0 ∧ C.2.2.1 = M.1 ∧ C.2.2.2.1 = M.2.1 ∧ 0 ≤ M.1 ∧ (M.1 = 0 → RB (C.2.2.2.2.1) (C.2.2.2.2.2.1) (C.2.2.2.2.2.2.1) (C.2.2.2.2.2.2.2.1) (C.2.2.2.2.2.2.2.2.1) (C.2.2.2.2.2.2.2.2.2.1) (C.2.2.2.2.2.2.2.2.2.2.1) (C.2.2.2.2.2.2.2.2.2.2.2.1) (C.2.2.2.2.2.2.2.2.2.2.2.2) (M.2.2.2.2.2.1) (M.2.2.2.2.2.2.1) (M.2.2.2.2.2.2.2.1) (M.2.2.2.2.2.2.2.2.1) (M.2.2.2.2.2.2.2.2.2.1) (M.2.2.2.2.2.2.2.2.2.2.1) (M.2.2.2.2.2.2.2.2.2.2.2.1) (M.2.2.2.2.2.2.2.2.2.2.2.2.1) (M.2.2.2.2.2.2.2.2.2.2.2.2.2)) := fun hc hmm => by
      obtain ⟨w, hmm⟩ := hmm
      subst hc
      subst hmm
      exact ⟨rfl, rfl, rfl, f0, fun e => (hs e).2.2.2⟩
    by_cases q : f = 0
    · subst q
      obtain ⟨t0, hx, hi, hR⟩ := hs rfl
      rw [if_pos rfl, here_r hT t0, ← hx] at hM
      have h14 : sX10_here_14 a11 a12 t14 = x := by rw [here_e hT t0, hx]
      have xn : 0 ≤ x := by rw [← h14]; exact here_nn t0 hT.2.2.1
      by_cases q2 : a12 ≤ x
      · rw [let_out q2, if_pos (by decide)] at hM
        refine stop ?_ ⟨_, hM⟩
        rw [hC]
        split
        · rfl
        · first | rfl | rw [if_pos q2]
      · have l := let_in hT xn q2
        have x240 : x < 240 := Int32.lt_of_lt_of_le (Int32.not_le.mp q2) hT.2.2.1
        have i240 : i < 240 := Int32.lt_of_le_of_lt hi x240
        rw [if_neg (Int32.not_lt.mpr (by rw [l.1]; exact l.2)), h14] at hM
        rw [if_neg (Int32.not_le.mpr i240), if_neg q2, if_pos rfl] at hC
        have hsk : sX8_skipBlanks_1 rd0 x a12 = x := by rw [hx]; exact skip_id hT t0
        have ce := clause_eq hT hR (x := x) (y := p) (a15 := t15) (a16 := t16) xn q2 hsk
        rw [ce.1, ce.2.1] at hC
        refine ih _ _ _ _ _ _ _ _ _ _ _ _ _ _ _ _ _ _ _ _ _ _ _ _ _ (a_nn i0 i240) (up_lt (b := 240) rfl i240 hm) clr_nn (fun e => ?_) C M hC hM
        have c2 := ce.2.2 e
        have up := cl_up xn hT.2.2.1 e
        have nn := cl_14 (a11 := a11) (a13 := p) (a15 := t15) (a16 := t16) (a17 := t17) (a18 := t18) (a19 := t19) (a21 := t21) xn hT.2.2.1
        have mo := here_mo (a11 := a11) nn hT.2.2.1
        rw [here_e hT nn] at mo
        refine ⟨nn, by rw [c2.1], ?_, c2.2⟩
        rw [c2.1]
        have u1 := Int32.lt_iff_toInt_lt.mp up.1
        have u2 := Int32.le_iff_toInt_le.mp hi
        have u3 := Int32.le_iff_toInt_le.mp mo
        have u4 := add1 i240
        rw [Int32.le_iff_toInt_le]
        omega
    · rw [if_neg q] at hM
      refine stop ?_ ⟨_, hM⟩
      rw [hC]
      split
      · rfl
      · split
        · rfl
        · first | rfl | rw [if_neg q]
theorem fill_at {fr : Nat → Int32} {v : Int32} : ∀ k : Nat, k < 1000 → ∀ j : Nat, aJ7_fill_53178_5 fr v k j = if j < k then v else fr j := by
  intro k
  induction k with
  | zero => intro _ j; rw [aJ7_fill_53178_5, if_neg (by omega)]
  | succ k ih =>
    intro hk j
    rw [aJ7_fill_53178_5, kc k (by omega)]
    by_cases e : j = k
    · subst e; rw [up_s, if_pos (by omega)]
    · rw [up_n e, ih (by omega)]
      by_cases q : j < k
      · rw [if_pos q, if_pos (by omega)]
      · rw [if_neg q, if_neg (by omega)]
theorem fill_in {fr : Nat → Int32} {v : Int32} {n j : Nat} (hn : n < 1000) (hj : j < n) : sJ7_fill_53178_free_a n fr v j = v := by
  unfold sJ7_fill_53178_free_a
  rw [fill_at n hn, if_pos hj]
/-- the row of a new day -/
def nrow (k : Nat) : Int32 := if 4 ≤ k ∧ k < 8 then -1 else 0
theorem RD_new {dy0 dy1 dy2 dy3 dy4 f : Nat → Int32} {dy5 : Int32} (h0 : ∀ j : Nat, j < 4 → dy0 j = 0) (h1 : ∀ j : Nat, j < 4 → dy1 j = -1) (h2 : ∀ j : Nat, j < 4 → dy2 j = 0) (h3 : ∀ j : Nat, j < 5 → dy3 j = 0) (h4 : ∀ j : Nat, j < 5 → dy4 j = 0) (h5 : dy5 = 0) (hf : ∀ k : Nat, k < 23 → f k = nrow k) : RD dy0 dy1 dy2 dy3 dy4 dy5 f := by
  refine ⟨fun j hj => ?_, fun j hj => ?_, fun j hj => ?_, fun j hj => ?_, fun j hj => ?_, ?_⟩
  · rw [h0 j hj, hf _ (by omega)]; unfold nrow; rw [if_neg (by omega)]
  · rw [h1 j hj, hf _ (by omega)]; unfold nrow; rw [if_pos (by omega)]
  · rw [h2 j hj, hf _ (by omega)]; unfold nrow; rw [if_neg (by omega)]
  · rw [h3 j hj, hf _ (by omega)]; unfold nrow; rw [if_neg (by omega)]
  · rw [h4 j hj, hf _ (by omega)]; unfold nrow; rw [if_neg (by omega)]
  · rw [h5, hf _ (by omega)]; rfl
theorem DI_new {f : Nat → Int32} {hu ca : Nat} (hf : ∀ k : Nat, k < 23 → f k = nrow k) : DI hu ca 9060 f := by
  have e0 : ∀ k : Nat, k < 23 → ¬ (4 ≤ k ∧ k < 8) → f k = 0 := fun k hk q => by rw [hf k hk]; unfold nrow; rw [if_neg q]
  have e1 : ∀ j : Nat, j < 4 → f (4 + j) = -1 := fun j hj => by rw [hf _ (by omega)]; unfold nrow; rw [if_pos (by omega)]
  refine ⟨by rw [e0 22 (by omega) (by omega)]; decide, fun j hj => by rw [e0 j (by omega) (by omega)]; decide, fun j hj => Or.inl (e1 j hj), fun j hj _ => e1 j hj, fun i j hi hj _ n => absurd (e1 i hi) n, fun j hj => Or.inl (e0 _ (by omega) (by omega)), fun c hc => by rw [e0 _ (by omega) (by omega)]; decide⟩
theorem tr146 {a9 : Nat → Int32} : ∀ k : Nat, k ≤ 23 → ∀ m : Nat, aX10_takeRead_146 a9 k m = if m < k then 0 else a9 m := by
  intro k
  induction k with
  | zero => intro _ j; rw [aX10_takeRead_146, if_neg (by omega)]
  | succ k ih =>
    intro hk j
    rw [aX10_takeRead_146, kc k (by omega)]
    by_cases e : j = k
    · subst e; rw [up_s, if_pos (by omega)]
    · rw [up_n e, ih (by omega)]
      by_cases q : j < k
      · rw [if_pos q, if_pos (by omega)]
      · rw [if_neg q, if_neg (by omega)]
theorem tr167 {v : Nat → Int32} : ∀ k : Nat, k ≤ 4 → ∀ m : Nat, aX10_takeRead_167 v k m = if 4 ≤ m ∧ m < 4 + k then -1 else v m := by
  intro k
  induction k with
  | zero => intro _ j; rw [aX10_takeRead_167, if_neg (by omega)]
  | succ k ih =>
    intro hk j
    rw [aX10_takeRead_167, show ((4 : Int32) + nI k).toNatClampNeg = 4 + k from ixK 4 k (by omega)]
    by_cases e : j = 4 + k
    · subst e; rw [up_s, if_pos (by omega)]
    · rw [up_n e, ih (by omega)]
      by_cases q : 4 ≤ j ∧ j < 4 + k
      · rw [if_pos q, if_pos (by omega)]
      · rw [if_neg q, if_neg (by omega)]
theorem tr9 {a9 : Nat → Int32} {k : Nat} (hk : k < 23) : sX10_takeRead_9 a9 k = nrow k := by
  unfold sX10_takeRead_9 nrow
  rw [tr167 4 (Nat.le_refl _), tr146 23 (Nat.le_refl _), if_pos hk]
theorem tr26 {a1 a18 : Nat → Int32} : ∀ k : Nat, k < 1000 → ∀ j : Nat, j < k → aX10_takeRead_26 a1 a18 k j = a18 j := by
  intro k
  induction k with
  | zero => intro _ j hj; omega
  | succ k ih =>
    intro hk j hj
    rw [aX10_takeRead_26, kc k (by omega)]
    by_cases e : j = k
    · subst e; rw [up_s]
    · rw [up_n e, ih (by omega) j (by omega)]
theorem tr54 {a3 a20 : Nat → Int32} : ∀ k : Nat, k < 1000 → ∀ j : Nat, j < k → aX10_takeRead_54 a3 a20 k j = a20 j := by
  intro k
  induction k with
  | zero => intro _ j hj; omega
  | succ k ih =>
    intro hk j hj
    rw [aX10_takeRead_54, kc k (by omega)]
    by_cases e : j = k
    · subst e; rw [up_s]
    · rw [up_n e, ih (by omega) j (by omega)]
theorem tr82 {a5 a6 a7 a8 a22 a23 a24 a25 : Nat → Int32} : ∀ k : Nat, k < 1000 → ∀ j : Nat, j < k → (aX10_takeRead_82 a5 a6 a7 a8 a22 a23 a24 a25 k).1 j = a22 j ∧ (aX10_takeRead_82 a5 a6 a7 a8 a22 a23 a24 a25 k).2.1 j = a23 j ∧ (aX10_takeRead_82 a5 a6 a7 a8 a22 a23 a24 a25 k).2.2.1 j = a24 j ∧ (aX10_takeRead_82 a5 a6 a7 a8 a22 a23 a24 a25 k).2.2.2 j = a25 j := by
  intro k
  induction k with
  | zero => intro _ j hj; omega
  | succ k ih =>
    intro hk j hj
    rw [aX10_takeRead_82, kc k (by omega)]
    show upd _ k _ j = _ ∧ upd _ k _ j = _ ∧ upd _ k _ j = _ ∧ upd _ k _ j = _
    by_cases e : j = k
    · subst e; rw [up_s, up_s, up_s, up_s]; exact ⟨rfl, rfl, rfl, rfl⟩
    · rw [up_n e, up_n e, up_n e, up_n e]; exact ih (by omega) j (by omega)
theorem RB_read {z0 z1 z2 z3 z4 z5 t18 t20 t22 t23 t24 t25 a1 a3 a5 a6 a7 a8 : Nat → Int32} {z6 z7 z8 t17 t19 t21 : Int32} (hR : RB z0 z1 z2 z3 z4 z5 z6 z7 z8 t17 t18 t19 t20 t21 t22 t23 t24 t25) : RB z0 z1 z2 z3 z4 z5 z6 z7 z8 (sX10_takeRead_0 t17) (sX10_takeRead_1 a1 t17 t18) (sX10_takeRead_2 t19) (sX10_takeRead_3 a3 t19 t20) (sX10_takeRead_4 t21) (sX10_takeRead_5 a5 a6 a7 a8 t21 t22 t23 t24 t25) (sX10_takeRead_6 a5 a6 a7 a8 t21 t22 t23 t24 t25) (sX10_takeRead_7 a5 a6 a7 a8 t21 t22 t23 t24 t25) (sX10_takeRead_8 a5 a6 a7 a8 t21 t22 t23 t24 t25) := by
  obtain ⟨e, b0, b2, b4, i2, i4, hT, hH, hC⟩ := hR
  have l0 := clampLe (n := 12) (b := 12) rfl b0.1 b0.2
  have l2 := clampLe (n := 4) (b := 4) rfl b2.1 b2.2
  have l4 := clampLe (n := 5) (b := 5) rfl b4.1 b4.2
  unfold sX10_takeRead_0 sX10_takeRead_2 sX10_takeRead_4
  refine ⟨e, b0, b2, b4, i2, i4, fun j hj => ?_, fun j hj => ?_, fun j hj => ?_⟩
  · unfold sX10_takeRead_1
    rw [tr26 _ (by omega) j hj]
    exact hT j hj
  · unfold sX10_takeRead_3
    rw [tr54 _ (by omega) j hj]
    exact hH j hj
  · have r := tr82 (a5 := a5) (a6 := a6) (a7 := a7) (a8 := a8) (a22 := t22) (a23 := t23) (a24 := t24) (a25 := t25) (t21.toNatClampNeg) (by omega) j hj
    unfold sX10_takeRead_5 sX10_takeRead_6 sX10_takeRead_7 sX10_takeRead_8
    rw [r.1, r.2.1, r.2.2.1, r.2.2.2]
    exact hC j hj
theorem forg {f : Nat → Int32} {j : Nat} (hj : j < 2) : sX5_forget_2 f j = 0 := by
  unfold sX5_forget_2
  rw [aX5_forget_2, aX5_forget_2, aX5_forget_2, kc 1 (by omega), kc 0 (by omega)]
  by_cases e : j = 1
  · rw [e, up_s]
  · have : j = 0 := by omega
    rw [this, up_n (by omega), up_s]
/-- the text is read alike: what the reference's loop leaves, and what the class has read -/
theorem read_eq (hT : TX rd0 a11 a12) {b0 b1 b2 b3 b4 b5 a18 a20 a22 a23 a24 a25 : Nat → Int32} {a15 a16 : Int32} : ∃ M, M = aX10_beach_27 a11 a12 243 0 (-1) 0 a15 a16 0 a18 0 a20 0 a22 a23 a24 a25 ∧ 0 ≤ M.1 ∧ sX8_readInto_2 rd0 a12 b0 b1 b2 b3 b4 b5 = 0 ∧ sX8_readInto_3 rd0 a12 b0 b1 b2 b3 b4 b5 = M.1 ∧ sX8_readInto_4 rd0 a12 b0 b1 b2 b3 b4 b5 = M.2.1 ∧ (M.1 = 0 → RB (sX8_readInto_arg0_0 rd0 a12 b0 b1 b2 b3 b4 b5) (sX8_readInto_arg0_1 rd0 a12 b0 b1 b2 b3 b4 b5) (sX8_readInto_arg0_2 rd0 a12 b0 b1 b2 b3 b4 b5) (sX8_readInto_arg0_3 rd0 a12 b0 b1 b2 b3 b4 b5) (sX8_readInto_arg0_4 rd0 a12 b0 b1 b2 b3 b4 b5) (sX8_readInto_arg0_5 rd0 a12 b0 b1 b2 b3 b4 b5) (sX8_readInto_arg0_6 rd0 a12 b0 b1 b2 b3 b4 b5) (sX8_readInto_arg0_7 rd0 a12 b0 b1 b2 b3 b4 b5) (sX8_readInto_arg0_8 rd0 a12 b0 b1 b2 b3 b4 b5) (M.2.2.2.2.2.1) (M.2.2.2.2.2.2.1) (M.2.2.2.2.2.2.2.1) (M.2.2.2.2.2.2.2.2.1) (M.2.2.2.2.2.2.2.2.2.1) (M.2.2.2.2.2.2.2.2.2.2.1) (M.2.2.2.2.2.2.2.2.2.2.2.1) (M.2.2.2.2.2.2.2.2.2.2.2.2.1) (M.2.2.2.2.2.2.2.2.2.2.2.2.2)) := by
  obtain ⟨C, hC⟩ : ∃ t, t = aX8_readInto_25 rd0 a12 241 0 (sX8_skipBlanks_1 rd0 0 a12) 0 (-1) b0 b1 b2 b3 b4 b5 0 0 0 := ⟨_, rfl⟩
  obtain ⟨M, hM⟩ : ∃ t, t = aX10_beach_27 a11 a12 243 0 (-1) 0 a15 a16 0 a18 0 a20 0 a22 a23 a24 a25 := ⟨_, rfl⟩
  have z : (0 : Int32) ≤ 0 := by decide
  have no : ∀ j : Nat, ¬ j < (0 : Int32).toNatClampNeg := fun j h => absurd h (Nat.not_lt_zero _)
  have sk : 0 ≤ sX8_skipBlanks_1 rd0 0 a12 := skip_nn z hT.2.2.1
  have bl := beach_loop hT 241 0 (sX8_skipBlanks_1 rd0 0 a12) 0 (-1) b0 b1 b2 b3 b4 b5 0 0 0 0 a15 a16 0 a18 0 a20 0 a22 a23 a24 a25 z (by decide) z (fun _ => ⟨z, rfl, sk, ⟨rfl, rfl, rfl⟩, ⟨z, by decide⟩, ⟨z, by decide⟩, ⟨z, by decide⟩, fun h => h, fun h => h, fun j hj => absurd hj (no j), fun j hj => absurd hj (no j), fun j hj => absurd hj (no j)⟩) C M hC hM
  refine ⟨M, hM, bl.2.2.2.1, ?_, ?_, ?_, fun e => ?_⟩
  · unfold sX8_readInto_2 sX0_clear_6 sX0_clear_7 sX0_clear_8; rw [← hC]; exact bl.1
  · unfold sX8_readInto_3 sX0_clear_6 sX0_clear_7 sX0_clear_8; rw [← hC]; exact bl.2.1
  · unfold sX8_readInto_4 sX0_clear_6 sX0_clear_7 sX0_clear_8; rw [← hC]; exact bl.2.2.1
  · unfold sX8_readInto_arg0_0 sX8_readInto_arg0_1 sX8_readInto_arg0_2 sX8_readInto_arg0_3 sX8_readInto_arg0_4 sX8_readInto_arg0_5 sX8_readInto_arg0_6 sX8_readInto_arg0_7 sX8_readInto_arg0_8 sX0_clear_6 sX0_clear_7 sX0_clear_8; rw [← hC]; exact bl.2.2.2.2 e
end BEACH
