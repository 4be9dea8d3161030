theorem n_le {a b : Nat} (ha : a < 1000) (hb : b < 1000) : nI a ≤ nI b ↔ a ≤ b := nI_leI (by omega) (by omega)
theorem n_lt {a b : Nat} (ha : a < 1000) (hb : b < 1000) : nI a < nI b ↔ a < b := nI_ltI (by omega) (by omega)
theorem n_s (j : Nat) : nI j + (1 : Int32) = nI (j + 1) := nI_add j 1
theorem upd_if {f : Nat → Int32} {i h : Nat} {v : Int32} : upd f i v h = if h = i then v else f h := rfl
section PLB
variable {a1 : Nat → Int32} {a6 : Int32} {c b ln m : Nat}
theorem fits17 (hc : c < 5) (hl : a1 c = nI ln) (hln : ln ≤ 4) (hb : b < 12) (hm : a6 = nI m) (hm4 : m ≤ 4) {t5 : Nat → Int32} {T : Nat → Nat} (hT : ∀ h : Nat, h < 12 → t5 h = nI (T h) ∧ T h < 100) : ∀ n j : Nat, j ≤ 12 → 12 - j < n → (aX7_fits_17 a1 t5 a6 (nI c) (nI b) n (nI j) = 0 ↔ ∃ h : Nat, j ≤ h ∧ h < b + ln ∧ h < 12 ∧ m ≤ T h) := by
  intro n
  induction n with
  | zero => intro j h1 h2; omega
  | succ n ih =>
    intro j h1 h2
    have e1 : nI b + a1 ((nI c).toNatClampNeg) = nI (b + ln) := by rw [nI_clamp (by omega), hl, nI_add]
    have e2 : (nI j).toNatClampNeg = j := nI_clamp (by omega)
    show (if nI b + a1 ((nI c).toNatClampNeg) ≤ nI j then (1 : Int32) else if (12 : Int32) ≤ nI j then (1 : Int32) else if t5 ((nI j).toNatClampNeg) < a6 then aX7_fits_17 a1 t5 a6 (nI c) (nI b) n (nI j + (1 : Int32)) else (0 : Int32)) = 0 ↔ _
    rw [e1, e2, n_s]
    by_cases q1 : nI (b + ln) ≤ nI j
    · have q := (n_le (by omega) (by omega)).mp q1
      rw [if_pos q1]
      exact ⟨fun h => absurd h (by decide), fun ⟨h, k1, k2, _⟩ => by omega⟩
    · have q : ¬ b + ln ≤ j := fun z => q1 ((n_le (by omega) (by omega)).mpr z)
      rw [if_neg q1]
      by_cases q2 : (12 : Int32) ≤ nI j
      · have p := (n_le (a := 12) (by omega) (by omega)).mp q2
        rw [if_pos q2]
        exact ⟨fun h => absurd h (by decide), fun ⟨h, k1, k2, k3, _⟩ => by omega⟩
      · have p : ¬ 12 ≤ j := fun z => q2 ((n_le (a := 12) (by omega) (by omega)).mpr z)
        rw [if_neg q2]
        have t := hT j (by omega)
        rw [t.1, hm]
        by_cases q3 : nI (T j) < nI m
        · have r := (n_lt (by omega) (by omega)).mp q3
          rw [if_pos q3, ← hm, ih (j + 1) (by omega) (by omega)]
          constructor
          · rintro ⟨h, k1, k2, k3, k4⟩
            exact ⟨h, by omega, k2, k3, k4⟩
          · rintro ⟨h, k1, k2, k3, k4⟩
            refine ⟨h, ?_, k2, k3, k4⟩
            rcases Nat.eq_or_lt_of_le k1 with e | e
            · rw [← e] at k4; omega
            · exact e
        · have r : ¬ T j < m := fun z => q3 ((n_lt (by omega) (by omega)).mpr z)
          rw [if_neg q3]
          exact ⟨fun _ => ⟨j, Nat.le_refl _, by omega, by omega, by omega⟩, fun _ => rfl⟩
theorem occ3 (hc : c < 5) (hl : a1 c = nI ln) (hln : ln ≤ 4) (hb : b < 12) {p2 : Int32} : ∀ (n j : Nat) (y : Nat → Int32), j ≤ 12 → 12 - j < n → ∀ h : Nat, aX7_occupy_3 a1 (nI c) (nI b) p2 n (nI j) y h = if j ≤ h ∧ h < b + ln ∧ h < 12 then y h + p2 else y h := by
  intro n
  induction n with
  | zero => intro j y h1 h2; omega
  | succ n ih =>
    intro j y h1 h2 h
    have e1 : nI b + a1 ((nI c).toNatClampNeg) = nI (b + ln) := by rw [nI_clamp (by omega), hl, nI_add]
    have e2 : (nI j).toNatClampNeg = j := nI_clamp (by omega)
    show (if nI b + a1 ((nI c).toNatClampNeg) ≤ nI j then y else if (12 : Int32) ≤ nI j then y else aX7_occupy_3 a1 (nI c) (nI b) p2 n (nI j + (1 : Int32)) (upd y ((nI j).toNatClampNeg) (y ((nI j).toNatClampNeg) + p2))) h = _
    rw [e1, e2, n_s]
    by_cases q1 : nI (b + ln) ≤ nI j
    · have q := (n_le (by omega) (by omega)).mp q1
      rw [if_pos q1, if_neg (by omega)]
    · have q : ¬ b + ln ≤ j := fun z => q1 ((n_le (by omega) (by omega)).mpr z)
      rw [if_neg q1]
      by_cases q2 : (12 : Int32) ≤ nI j
      · have p := (n_le (a := 12) (by omega) (by omega)).mp q2
        rw [if_pos q2, if_neg (by omega)]
      · have p : ¬ 12 ≤ j := fun z => q2 ((n_le (a := 12) (by omega) (by omega)).mpr z)
        rw [if_neg q2, ih (j + 1) _ (by omega) (by omega) h, upd_if]
        by_cases e : h = j
        · subst e
          rw [if_neg (by omega), if_pos rfl, if_pos (by omega)]
        · rw [if_neg e]
          by_cases k : j ≤ h ∧ h < b + ln ∧ h < 12
          · rw [if_pos k, if_pos (by omega)]
          · rw [if_neg k, if_neg (by omega)]
end PLB
