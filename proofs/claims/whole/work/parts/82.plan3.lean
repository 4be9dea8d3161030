theorem p33 {a0 : Int32} {a1 a5 a7 a9 a28 : Nat → Int32} : ∀ n j : Nat, n ≤ 5 → j < n → aX10_plan_33 a0 a1 a5 a7 a9 a28 n j = rX10_openSet a0 a1 a5 a7 a9 (nI j) := by
  intro n
  induction n with
  | zero => intro j _ hj; omega
  | succ n ih =>
    intro j hn hj
    rw [aX10_plan_33, kc n (by omega), upd_if]
    by_cases y : j = n
    · rw [if_pos y, y]
    · rw [if_neg y]; exact ih j (by omega) (by omega)
theorem open_s {a0 c : Int32} {a1 a5 a7 a9 : Nat → Int32} : rX10_openSet a0 a1 a5 a7 a9 c = nI ((rX10_openSet a0 a1 a5 a7 a9 c).toNatClampNeg) ∧ (rX10_openSet a0 a1 a5 a7 a9 c).toNatClampNeg < 4096 := by
  obtain ⟨n, h1, h2⟩ := open_lt (a0 := a0) (a1 := a1) (a5 := a5) (a7 := a7) (a9 := a9) (p0 := c) 12 (Nat.le_refl _)
  have h3 : n < 4096 := h1
  have e : rX10_openSet a0 a1 a5 a7 a9 c = nI n := h2
  rw [e, nI_clamp (by omega)]
  exact ⟨rfl, h3⟩
theorem hc_iff {a4 : Int32} {k : Nat} (h0 : 0 ≤ a4) (h5 : a4 ≤ 5) (hk : k < 5) : ¬ rX0_hasCase a4 (nI k) = 0 ↔ k < a4.toNatClampNeg := by
  have N5 : a4.toNatClampNeg ≤ 5 := clampLe (n := 5) (b := 5) rfl h0 h5
  constructor
  · intro h
    have := (case_ok h5 h).2.1
    rw [kc k (by omega)] at this
    exact this
  · intro h
    unfold rX0_hasCase
    have q1 : ¬ nI k < 0 := fun y => absurd ((n_lt (a := k) (b := 0) (by omega) (by omega)).mp y) (Nat.not_lt_zero _)
    have q2 : ¬ a4 ≤ nI k := fun y => by
      rw [cl_nI a4 h0] at y
      have := (n_le (by omega) (by omega)).mp y
      omega
    rw [if_neg q1, if_neg q2]
    decide
section PLT
variable {dy0 dy1 dy2 dy3 dy4 pl0 pl1 pl2 pl3 pl4 pl5 sh0 sh1 sh2 sh3 sh4 sh5 a1 a3 a5 a6 a7 a8 a9 a28 a29 a30 : Nat → Int32} {dy5 sh6 sh7 sh8 a0 a2 a4 p0 p1 : Int32}
def pqW (a4 : Int32) (a9 : Nat → Int32) (j : Nat) : Bool := decide (j < a4.toNatClampNeg ∧ a9 (12 + j) = 0)
def pqS (a0 : Int32) (a1 a5 a7 a9 : Nat → Int32) (j : Nat) : Nat := (rX10_openSet a0 a1 a5 a7 a9 (nI j)).toNatClampNeg
def pqL (a6 : Nat → Int32) (j : Nat) : Nat := (a6 j).toNatClampNeg
def pqO (a0 : Int32) (a1 a5 a6 a7 a9 : Nat → Int32) (j b : Nat) : Bool := decide (b < 12 ∧ plM (nI (pqS a0 a1 a5 a7 a9 j)) (nI (pqL a6 j)) b = 0)
theorem pq_l (hB : RB sh0 sh1 sh2 sh3 sh4 sh5 sh6 sh7 sh8 a0 a1 a2 a3 a4 a5 a6 a7 a8) {j : Nat} (h : j < a4.toNatClampNeg) : a6 j = nI (pqL a6 j) ∧ 1 ≤ pqL a6 j ∧ pqL a6 j ≤ 4 := by
  have q := (hB.2.2.2.2.2.2.2.2 j h).2.1.2
  have z : (0 : Int32) ≤ a6 j := Int32.le_trans (by decide) q.1
  have c := clampInt z
  have d := Int32.le_iff_toInt_le.mp q.1
  have e : (1 : Int32).toInt = 1 := rfl
  refine ⟨cl_nI _ z, ?_, clampLe (n := 4) (b := 4) rfl z q.2⟩
  unfold pqL
  omega
theorem pq_PSH (hB : RB sh0 sh1 sh2 sh3 sh4 sh5 sh6 sh7 sh8 a0 a1 a2 a3 a4 a5 a6 a7 a8) (hD : RD dy0 dy1 dy2 dy3 dy4 dy5 a9) (hI : DI (a2.toNatClampNeg) (a4.toNatClampNeg) 9060 a9) : PSH sh0 sh2 sh3 sh4 sh6 sh8 dy3 dy5 (pqW a4 a9) (pqL a6) (pqO a0 a1 a5 a6 a7 a9) (pqS a0 a1 a5 a7 a9) := by
  intro k hk
  have c0 := hB.2.2.2.1
  rw [hB.1.2.2, hc_iff c0.1 c0.2 hk, hD.2.2.2.1 k hk]
  refine ⟨decide_eq_true_iff, fun w => ?_⟩
  have w2 := (of_decide_eq_true w).1
  have l := pq_l hB w2
  refine ⟨⟨(hB.2.2.2.2.2.2.2.2 k w2).2.1.1.trans l.1, l.2⟩, ⟨open_s.2, ?_⟩, fun b => decide_eq_true_iff⟩
  rw [open_eq hB hD hI (pos_of_case hB w2) (c := nI k) (by rw [kc k (by omega)]; exact w2)]
  exact open_s.1
theorem pq_PMH (hB : RB sh0 sh1 sh2 sh3 sh4 sh5 sh6 sh7 sh8 a0 a1 a2 a3 a4 a5 a6 a7 a8) : PMH a4 a6 a9 (aX10_plan_33 a0 a1 a5 a7 a9 a28 (a4.toNatClampNeg)) (pqW a4 a9) (pqL a6) (pqO a0 a1 a5 a6 a7 a9) (a4.toNatClampNeg) := by
  have c0 := hB.2.2.2.1
  have N5 : a4.toNatClampNeg ≤ 5 := clampLe (n := 5) (b := 5) rfl c0.1 c0.2
  refine ⟨cl_nI _ c0.1, N5, fun j hj => ⟨fun h => decide_eq_true ⟨hj, h⟩, fun h => (of_decide_eq_true h).2⟩, fun j h => (of_decide_eq_true h).1, fun j h => ?_, fun j b h hb => ?_⟩
  · have l := pq_l hB (of_decide_eq_true h).1
    exact ⟨l.1, l.2.2⟩
  · have w := (of_decide_eq_true h).1
    have l := pq_l hB w
    have o := open_s (a0 := a0) (a1 := a1) (a5 := a5) (a7 := a7) (a9 := a9) (c := nI j)
    rw [p33 (a4.toNatClampNeg) j N5 w, l.1, o.1]
    exact ⟨fun y => decide_eq_true ⟨hb, y⟩, fun y => (of_decide_eq_true y).2⟩
theorem pl_core (hB : RB sh0 sh1 sh2 sh3 sh4 sh5 sh6 sh7 sh8 a0 a1 a2 a3 a4 a5 a6 a7 a8) (hD : RD dy0 dy1 dy2 dy3 dy4 dy5 a9) (hI : DI (a2.toNatClampNeg) (a4.toNatClampNeg) 9060 a9) {m : Nat} (m1 : 1 ≤ m) (m4 : m ≤ 4) : ∃ z : Nat × Nat, PRl (pqW a4 a9) z (sX7_search_4 pl0 pl1 pl2 pl3 pl4 pl5 sh0 sh2 sh3 sh4 sh6 sh8 dy3 dy5 (nI m)) (sX7_search_8 pl0 pl1 pl2 pl3 pl4 pl5 sh0 sh2 sh3 sh4 sh6 sh8 dy3 dy5 (nI m)) ∧ (aX10_plan_64 a4 a6 a9 a29 a30 (nI m) (aX10_plan_33 a0 a1 a5 a7 a9 a28 (a4.toNatClampNeg)) ((rX10_waysToBegin a4 a9).toNatClampNeg)).1 = nI z.1 ∧ (¬ z.1 = 100 → ∀ j : Nat, j < a4.toNatClampNeg → (aX10_plan_64 a4 a6 a9 a29 a30 (nI m) (aX10_plan_33 a0 a1 a5 a7 a9 a28 (a4.toNatClampNeg)) ((rX10_waysToBegin a4 a9).toNatClampNeg)).2.2 j = pdg (pqW a4 a9) z.2 j) := by
  have M := pq_PMH (a9 := a9) (a28 := a28) hB
  obtain ⟨s7, L⟩ := PLH_of (a0 := pl0) (a1 := pl1) (a2 := pl2) (pq_PSH hB hD hI) (fun k w => by have := (of_decide_eq_true w).1; have := M.2.1; omega) m1 m4
  have W := ways_W rfl M.2.2.1 M.2.1 (fun j hj w => by have := (of_decide_eq_true w).1; omega)
  have T := mo_top M L.2.2.2.1 m4 (a29 := a29) (a30 := a30) (plW (pqW a4 a9) 5 0) (by omega)
  refine ⟨plF (fun k => plV (pqW a4 a9) (pqL a6) (pqO a0 a1 a5 a6 a7 a9) m (plD (pqW a4 a9) k)) (plW (pqW a4 a9) 5 0) 0 (100, 0), ?_, ?_, ?_⟩
  · exact cl_top L (fun j hj => fill_in (by omega) hj) (fun j hj => fill_in (by omega) hj) (fun j hj => fill_in (by omega) hj)
  · rw [W.1, nI_clamp (by omega)]
    exact T.1
  · rw [W.1, nI_clamp (by omega)]
    exact T.2.2
theorem e_plan (hB : RB sh0 sh1 sh2 sh3 sh4 sh5 sh6 sh7 sh8 a0 a1 a2 a3 a4 a5 a6 a7 a8) (hD : RD dy0 dy1 dy2 dy3 dy4 dy5 a9) (hI : DI (a2.toNatClampNeg) (a4.toNatClampNeg) 9060 a9) : rX9_plan dy3 dy5 pl0 pl1 pl2 pl3 pl4 pl5 sh0 sh2 sh3 sh4 sh6 sh8 p0 p1 = rX10_plan a0 a1 a4 a5 a6 a7 a9 a28 a29 a30 p0 p1 := by
  have c0 := hB.2.2.2.1
  have ow : rX10_in p0.toInt64 (1 : Int64) (4 : Int64) = 0 ↔ ¬ rX9_isOutside p0 (1 : Int32) (4 : Int32) = 0 := out_iff rfl rfl
  have cw := case_iff (x := p1) c0.1 c0.2
  have rw8 : rX0_hasCase sh8 p1 = rX0_hasCase a4 p1 := by rw [hB.1.2.2]
  unfold rX9_plan rX10_plan
  by_cases o : rX9_isOutside p0 (1 : Int32) (4 : Int32) = 0
  · have b := isO.mp o
    have z0 : (0 : Int32) ≤ p0 := Int32.le_trans (by decide) b.1
    have ci := clampInt z0
    have d := Int32.le_iff_toInt_le.mp b.1
    have e : (1 : Int32).toInt = 1 := rfl
    have m1 : 1 ≤ p0.toNatClampNeg := by omega
    have m4 : p0.toNatClampNeg ≤ 4 := clampLe (n := 4) (b := 4) rfl z0 b.2
    obtain ⟨z, h1, h2, h3⟩ := pl_core (pl0 := pl0) (pl1 := pl1) (pl2 := pl2) (pl3 := pl3) (pl4 := pl4) (pl5 := pl5) (a28 := a28) (a29 := a29) (a30 := a30) hB hD hI m1 m4
    rw [← cl_nI p0 z0] at h1 h2 h3
    have no : ¬ rX10_in p0.toInt64 (1 : Int64) (4 : Int64) = 0 := fun y => ow.mp y o
    rw [if_pos o, if_pos o, if_neg no, if_neg no, h2, rw8]
    rcases h1 with ⟨k1, k2, k3⟩ | ⟨k1, k2, k3⟩
    · have e100 : nI z.1 = (100 : Int32) := by rw [k1]; rfl
      rw [if_pos e100, if_pos e100, k2]
      by_cases q : p1 = (-1 : Int32)
      · rw [if_pos q, if_pos q]; rfl
      · rw [if_neg q, if_neg q]
        by_cases r : rX0_hasCase a4 p1 = 0
        · rw [if_pos r, if_pos (cw.mpr r)]
        · rw [if_neg r, if_neg (fun y => r (cw.mp y))]
          exact k3 _ (case_ok c0.2 r).2.2
    · have ne : ∀ k : Nat, 12 < k → k < 1000 → ¬ nI z.1 = nI k := fun k h4 h5 h6 => by
        have := (n_le (a := k) (b := z.1) h5 (by omega)).mp (by rw [h6]; exact Int32.le_refl _)
        omega
      have n100 : ¬ nI z.1 = (100 : Int32) := ne 100 (by decide) (by decide)
      have n13 : ¬ nI z.1 = (13 : Int32) := ne 13 (by decide) (by decide)
      rw [if_neg n100, if_neg n100, k2]
      by_cases q : p1 = (-1 : Int32)
      · rw [if_pos q, if_pos q]
        exact if_neg n13
      · rw [if_neg q, if_neg q]
        by_cases r : rX0_hasCase a4 p1 = 0
        · rw [if_pos r, if_pos (cw.mpr r)]
        · rw [if_neg r, if_neg (fun y => r (cw.mp y))]
          have k := case_ok c0.2 r
          exact (k3 _ k.2.2).trans (h3 (by omega) _ k.2.1).symm
  · rw [if_neg o, if_neg o, if_pos (ow.mpr o), if_pos (ow.mpr o), rw8]
    simp only [cw]
end PLT
