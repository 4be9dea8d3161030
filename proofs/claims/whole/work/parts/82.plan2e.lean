def PMH (a4 : Int32) (a6 a9 v : Nat → Int32) (wt : Nat → Bool) (ln : Nat → Nat) (op : Nat → Nat → Bool) (N : Nat) : Prop :=
  a4 = nI N ∧ N ≤ 5 ∧ (∀ j : Nat, j < N → (a9 (12 + j) = 0 ↔ wt j = true)) ∧ (∀ j : Nat, wt j = true → j < N) ∧ (∀ j : Nat, wt j = true → a6 j = nI (ln j) ∧ ln j ≤ 4) ∧ ∀ j b : Nat, wt j = true → b < 12 → (((((((1 : Int32) <<< (a6 j &&& 31)) - (1 : Int32)) <<< (nI b &&& 31)) &&& (v j ^^^ (-1 : Int32))) = 0) ↔ op j b = true)
theorem n_p (i : Nat) : nI (i + 1) - (1 : Int32) = nI i := by
  rw [← n_s]; grind
section PLM
variable {a4 : Int32} {a6 a9 v : Nat → Int32} {wt : Nat → Bool} {ln : Nat → Nat} {op : Nat → Nat → Bool} {N k : Nat}
theorem bb13 (H : PMH a4 a6 a9 v wt ln op N) (hk : k < 300000) : ∀ i : Nat, i ≤ N → ∀ (n e : Nat) (t29 : Nat → Int32), i < n → e < 100 → ∀ r, r = aX10_beginBy_13 a6 a9 v n (nI (k / plW wt (5 - i) i)) (nI e) (nI i - (1 : Int32)) t29 →
    (plOk wt op (plD wt k) i → r.1 = 0 ∧ r.2.2.2.1 = nI (max e (plE wt ln (plD wt k) i)) ∧ (∀ j : Nat, j < i → r.2.2.2.2.2 j = pdg wt k j) ∧ ∀ j : Nat, i ≤ j → r.2.2.2.2.2 j = t29 j) ∧ (¬ plOk wt op (plD wt k) i → r.1 = 1 ∧ r.2.1 = 100) := by
  intro i
  induction i with
  | zero =>
    intro hi n e t29 hn he r hr
    obtain ⟨n', rfl⟩ : ∃ n', n = n' + 1 := ⟨n - 1, by omega⟩
    rw [aX10_beginBy_13, if_pos (by decide)] at hr
    subst hr
    refine ⟨fun _ => ⟨rfl, ?_, fun j hj => absurd hj (Nat.not_lt_zero _), fun _ _ => rfl⟩, fun h => absurd (fun j hj => absurd hj (Nat.not_lt_zero _)) h⟩
    show nI e = nI (max e 0)
    rw [Nat.max_zero]
  | succ i ih =>
    intro hi n e t29 hn he r hr
    obtain ⟨n', rfl⟩ : ∃ n', n = n' + 1 := ⟨n - 1, by omega⟩
    have N5 := H.2.1
    have cI : (nI i).toNatClampNeg = i := nI_clamp (by omega)
    have c12 : ((12 : Int32) + nI i).toNatClampNeg = 12 + i := by
      rw [show (12 : Int32) = nI 12 from rfl, nI_add, nI_clamp (by omega)]
    have m1 : nI i + (-1 : Int32) = nI i - (1 : Int32) := by grind
    have d5 : 5 - (i + 1) = 4 - i := by omega
    have W5 : plW wt (5 - i) i = (if wt i = true then 12 else 1) * plW wt (4 - i) (i + 1) := by
      rw [show 5 - i = (4 - i) + 1 by omega]; rfl
    have kx : k / plW wt (4 - i) (i + 1) < 2 ^ 31 := Nat.lt_of_le_of_lt (Nat.div_le_self _ _) (by omega)
    rw [aX10_beginBy_13, n_p, if_neg (show ¬ nI i < 0 from fun h => absurd ((n_lt (b := 0) (by omega) (by omega)).mp h) (Nat.not_lt_zero _)), c12, cI, d5, m1] at hr
    by_cases w : wt i = true
    · have l := H.2.2.2.2.1 i w
      have dlt : plD wt k i < 12 := Nat.mod_lt _ (by decide)
      have dd : nI (k / plW wt (4 - i) (i + 1)) - nI (k / plW wt (4 - i) (i + 1)) / (12 : Int32) * (12 : Int32) = nI (plD wt k i) := pk_rem (d := 12) kx (by decide) (by decide)
      have dv : nI (k / plW wt (4 - i) (i + 1)) / (12 : Int32) = nI (k / plW wt (5 - i) i) := by
        rw [W5, if_pos w, Nat.mul_comm, ← Nat.div_div_eq_div_mul]
        exact pk_div (d := 12) kx (by decide) (by decide)
      rw [if_pos ((H.2.2.1 i (by omega)).mpr w), dd, dv, l.1, nI_add] at hr
      have oo := H.2.2.2.2.2 i (plD wt k i) w dlt
      rw [l.1] at oo
      have E1 : plE wt ln (plD wt k) (i + 1) = max (plE wt ln (plD wt k) i) (plD wt k i + ln i) := if_pos w
      have up : ∀ j : Nat, upd (upd t29 i (-1 : Int32)) i (nI (plD wt k i)) j = if j = i then nI (plD wt k i) else t29 j := fun j => by
        rw [upd_if, upd_if]
        by_cases y : j = i
        · rw [if_pos y, if_pos y]
        · rw [if_neg y, if_neg y, if_neg y]
      by_cases q : op i (plD wt k i) = true
      · rw [if_pos (oo.mpr q)] at hr
        have key : ∀ e2 : Nat, e2 < 100 → max e2 (plE wt ln (plD wt k) i) = max e (plE wt ln (plD wt k) (i + 1)) → r = aX10_beginBy_13 a6 a9 v n' (nI (k / plW wt (5 - i) i)) (nI e2) (nI i - (1 : Int32)) (upd (upd t29 i (-1 : Int32)) i (nI (plD wt k i))) → _ := fun e2 h1 h2 h3 => by
          have I := ih (by omega) n' e2 _ (by omega) h1 r h3
          have both : plOk wt op (plD wt k) (i + 1) ↔ plOk wt op (plD wt k) i := ⟨fun h j hj => h j (by omega), fun h j hj wj => by
            by_cases y : j = i
            · rw [y]; exact q
            · exact h j (by omega) wj⟩
          refine (⟨fun h => ?_, fun h => I.2 (fun y => h (both.mpr y))⟩ : (plOk wt op (plD wt k) (i + 1) → r.1 = 0 ∧ r.2.2.2.1 = nI (max e (plE wt ln (plD wt k) (i + 1))) ∧ (∀ j : Nat, j < i + 1 → r.2.2.2.2.2 j = pdg wt k j) ∧ ∀ j : Nat, i + 1 ≤ j → r.2.2.2.2.2 j = t29 j) ∧ (¬ plOk wt op (plD wt k) (i + 1) → r.1 = 1 ∧ r.2.1 = 100))
          have J := I.1 (both.mp h)
          refine ⟨J.1, by rw [J.2.1, h2], fun j hj => ?_, fun j hj => ?_⟩
          · by_cases y : j = i
            · rw [J.2.2.2 j (by omega), up, if_pos y, y]
              unfold pdg
              rw [if_pos w]
            · exact J.2.2.1 j (by omega)
          · rw [J.2.2.2 j (by omega), up, if_neg (by omega)]
        by_cases y : nI (plD wt k i + ln i) ≤ nI e
        · have y2 := (n_le (by omega) (by omega)).mp y
          rw [if_pos y] at hr
          exact key e he (by omega) hr
        · have y2 : ¬ plD wt k i + ln i ≤ e := fun x => y ((n_le (by omega) (by omega)).mpr x)
          rw [if_neg y] at hr
          exact key (plD wt k i + ln i) (by omega) (by omega) hr
      · rw [if_neg (fun y => q (oo.mp y))] at hr
        subst hr
        exact ⟨fun h => absurd (h i (by omega) w) q, fun _ => ⟨rfl, rfl⟩⟩
    · rw [if_neg (fun y => w ((H.2.2.1 i (by omega)).mp y))] at hr
      have W6 : plW wt (5 - i) i = plW wt (4 - i) (i + 1) := by rw [W5, if_neg w, Nat.one_mul]
      rw [← W6] at hr
      have I := ih (by omega) n' e _ (by omega) he r hr
      have E1 : plE wt ln (plD wt k) (i + 1) = plE wt ln (plD wt k) i := if_neg w
      have both : plOk wt op (plD wt k) (i + 1) ↔ plOk wt op (plD wt k) i := ⟨fun h j hj => h j (by omega), fun h j hj wj => h j (by have : j ≠ i := fun y => w (y ▸ wj); omega) wj⟩
      refine ⟨fun h => ?_, fun h => I.2 (fun y => h (both.mpr y))⟩
      have J := I.1 (both.mp h)
      refine ⟨J.1, by rw [J.2.1, E1], fun j hj => ?_, fun j hj => ?_⟩
      · by_cases y : j = i
        · rw [J.2.2.2 j (by omega), upd_if, if_pos y, y]
          unfold pdg
          rw [if_neg w]
        · exact J.2.2.1 j (by omega)
      · rw [J.2.2.2 j (by omega), upd_if, if_neg (by omega)]
end PLM
