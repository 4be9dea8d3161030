theorem plE_top {wt : Nat → Bool} {ln be : Nat → Nat} {N : Nat} (h : ∀ j : Nat, N ≤ j → ¬ wt j = true) : ∀ d : Nat, plE wt ln be (N + d) = plE wt ln be N := by
  intro d
  induction d with
  | zero => rfl
  | succ d ih =>
    show (if wt (N + d) = true then max (plE wt ln be (N + d)) (be (N + d) + ln (N + d)) else plE wt ln be (N + d)) = _
    rw [if_neg (h (N + d) (by omega)), ih]
theorem plC_top {wt : Nat → Bool} {ln be : Nat → Nat} {x N : Nat} (h : ∀ j : Nat, N ≤ j → ¬ wt j = true) : ∀ d : Nat, plC wt ln be x (N + d) = plC wt ln be x N := by
  intro d
  induction d with
  | zero => rfl
  | succ d ih =>
    show plC wt ln be x (N + d) + (if wt (N + d) = true ∧ be (N + d) ≤ x ∧ x < be (N + d) + ln (N + d) then 1 else 0) = _
    rw [if_neg (fun y => h (N + d) (by omega) y.1), ih]; rfl
theorem plC_le {wt : Nat → Bool} {ln be : Nat → Nat} {x : Nat} : ∀ c : Nat, plC wt ln be x c ≤ c := by
  intro c
  induction c with
  | zero => exact Nat.le_refl _
  | succ c ih =>
    show plC wt ln be x c + (if wt c = true ∧ be c ≤ x ∧ x < be c + ln c then 1 else 0) ≤ c + 1
    split <;> omega
section PLO
variable {a4 : Int32} {a6 a9 v a29 : Nat → Int32} {wt : Nat → Bool} {ln : Nat → Nat} {op : Nat → Nat → Bool} {N k m : Nat}
theorem bb_V (H : PMH a4 a6 a9 v wt ln op N) (hop : ∀ c b : Nat, wt c = true → op c b = true → b + ln c ≤ 12) (hk : k < 300000) (hm : m ≤ 4) : rX10_beginBy a4 a6 a9 v a29 (nI k) (nI m) = nI (plV wt ln op m (plD wt k)) ∧ (¬ plV wt ln op m (plD wt k) = 100 → ∀ j : Nat, j < N → sX10_beginBy_29 a4 a6 a9 v a29 (nI k) (nI m) j = pdg wt k j) := by
  have N5 := H.2.1
  have top : ∀ j : Nat, N ≤ j → ¬ wt j = true := fun j hj wj => by have := H.2.2.2.1 j wj; omega
  have eE := plE_top (ln := ln) (be := plD wt k) top (5 - N)
  have eC := fun x => plC_top (ln := ln) (be := plD wt k) (x := x) top (5 - N)
  rw [show N + (5 - N) = 5 by omega] at eE
  have eC2 : ∀ x : Nat, plC wt ln (plD wt k) x 5 = plC wt ln (plD wt k) x N := fun x => by
    have y := eC x
    rw [show N + (5 - N) = 5 by omega] at y
    exact y
  obtain ⟨B, hB⟩ : ∃ B, B = aX10_beginBy_13 a6 a9 v 6 (nI k) (0 : Int32) (a4 - (1 : Int32)) a29 := ⟨_, rfl⟩
  have I := bb13 H hk N (Nat.le_refl _) 6 0 a29 (by omega) (by decide) B (by rw [plW_one _ _ top, Nat.div_one, ← H.1]; exact hB)
  unfold rX10_beginBy sX10_beginBy_29
  rw [← hB]
  by_cases o : plOk wt op (plD wt k) N
  · have J := I.1 o
    have o5 : plOk wt op (plD wt k) 5 := fun j hj wj => o j (H.2.2.2.1 j wj) wj
    have e12 := plE_le hop N o
    have hE : B.2.2.2.1 = nI (plE wt ln (plD wt k) N) := by rw [J.2.1, Nat.zero_max]
    have n1 : ¬ B.1 = 1 := by rw [J.1]; decide
    rw [if_neg n1, if_neg n1, hE, nI_clamp (by omega)]
    obtain ⟨r, hr⟩ : ∃ r, r = aX10_beginBy_145 a4 a6 a9 v a29 (nI k) (nI m) (plE wt ln (plD wt k) N + 1) (0 : Int32) := ⟨_, rfl⟩
    have K := b145 H hB J.2.2.1 hE e12 hm (fun h => by have := plC_le (wt := wt) (ln := ln) (be := plD wt k) (x := h) N; omega) (plE wt ln (plD wt k) N + 1) 0 (Nat.zero_le _) (by omega) r hr
    rw [← hr]
    by_cases c : ∀ x : Nat, 0 ≤ x → x < plE wt ln (plD wt k) N → plC wt ln (plD wt k) x N ≤ m
    · have n2 : ¬ r.1 = 1 := by rw [K.1 c]; decide
      have pv : plV wt ln op m (plD wt k) = plE wt ln (plD wt k) N := by
        rw [← eE]
        exact if_pos ⟨o5, fun h hh => by rw [eC2]; exact c h (Nat.zero_le _) (by rw [← eE]; exact hh)⟩
      rw [if_neg n2, if_neg n2, pv]
      exact ⟨rfl, fun _ => J.2.2.1⟩
    · have q := K.2 c
      have pv : plV wt ln op m (plD wt k) = 100 := if_neg (fun y => c (fun x _ x2 => by
        have z := y.2 x (by rw [eE]; exact x2)
        rw [eC2] at z
        exact z))
      rw [if_pos q.1, q.2, pv]
      exact ⟨rfl, fun y => absurd rfl y⟩
  · have q := I.2 o
    have pv : plV wt ln op m (plD wt k) = 100 := if_neg (fun y => o (fun j hj wj => y.1 j (by omega) wj))
    rw [if_pos q.1, q.2, pv]
    exact ⟨rfl, fun y => absurd rfl y⟩
theorem plF_end {V : Nat → Nat} (n : Nat) (z : Nat × Nat) : plF V (n + 1) 0 z = (if V n < (plF V n 0 z).1 then (V n, n) else plF V n 0 z) := by
  rw [plF_add, Nat.zero_add]; rfl
theorem mo_top (H : PMH a4 a6 a9 v wt ln op N) (hop : ∀ c b : Nat, wt c = true → op c b = true → b + ln c ≤ 12) (hm : m ≤ 4) {a30 : Nat → Int32} : ∀ n : Nat, n ≤ 300000 → (aX10_plan_64 a4 a6 a9 a29 a30 (nI m) v n).1 = nI (plF (fun k => plV wt ln op m (plD wt k)) n 0 (100, 0)).1 ∧ (plF (fun k => plV wt ln op m (plD wt k)) n 0 (100, 0)).1 ≤ 100 ∧ (¬ (plF (fun k => plV wt ln op m (plD wt k)) n 0 (100, 0)).1 = 100 → ∀ j : Nat, j < N → (aX10_plan_64 a4 a6 a9 a29 a30 (nI m) v n).2.2 j = pdg wt (plF (fun k => plV wt ln op m (plD wt k)) n 0 (100, 0)).2 j) := by
  intro n
  induction n with
  | zero => intro _; exact ⟨rfl, Nat.le_refl _, fun h => absurd rfl h⟩
  | succ n ih =>
    intro hn
    have N5 := H.2.1
    have aN : a4.toNatClampNeg = N := by rw [H.1]; exact nI_clamp (by omega)
    have I := ih (by omega)
    obtain ⟨P, hP⟩ : ∃ P, P = aX10_plan_64 a4 a6 a9 a29 a30 (nI m) v n := ⟨_, rfl⟩
    obtain ⟨F, hF⟩ : ∃ F, F = plF (fun k => plV wt ln op m (plD wt k)) n 0 (100, 0) := ⟨_, rfl⟩
    have BV := bb_V H hop (k := n) (by omega) hm (a29 := P.2.1)
    rw [← hP, ← hF] at I
    rw [aX10_plan_64, plF_end, ← hP, ← hF, I.1, BV.1, aN]
    have v100 : plV wt ln op m (plD wt n) ≤ 100 := by
      unfold plV
      split
      · rename_i y
        have := plE_le hop 5 y.1
        omega
      · exact Nat.le_refl _
    by_cases q : nI F.1 ≤ nI (plV wt ln op m (plD wt n))
    · have q2 := (n_le (by omega) (by omega)).mp q
      rw [if_pos q, if_neg (Nat.not_lt.mpr q2)]
      exact ⟨rfl, I.2.1, I.2.2⟩
    · have q2 : ¬ F.1 ≤ plV wt ln op m (plD wt n) := fun x => q ((n_le (by omega) (by omega)).mpr x)
      rw [if_neg q, if_pos (Nat.not_le.mp q2)]
      refine ⟨rfl, v100, fun y j hj => ?_⟩
      have cp : ∀ d : Nat, d ≤ N → ∀ i : Nat, i < d → aX10_plan_94 a4 a6 a9 (nI m) n v P d i = sX10_beginBy_29 a4 a6 a9 v P.2.1 (nI n) (nI m) i := by
        intro d
        induction d with
        | zero => intro _ i hi; omega
        | succ d ih2 =>
          intro hd i hi
          rw [aX10_plan_94, nI_clamp (by omega), upd_if]
          by_cases u : i = d
          · rw [if_pos u, u]
          · rw [if_neg u]; exact ih2 (by omega) i (by omega)
      show aX10_plan_94 a4 a6 a9 (nI m) n v P N j = _
      rw [cp N (Nat.le_refl _) j hj]
      exact BV.2 y j hj
end PLO
