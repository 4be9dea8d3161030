theorem plW_one {wt : Nat → Bool} : ∀ d c : Nat, (∀ j : Nat, c ≤ j → ¬ wt j = true) → plW wt d c = 1 := by
  intro d
  induction d with
  | zero => intro c _; rfl
  | succ d ih =>
    intro c h
    show (if wt c = true then 12 else 1) * plW wt d (c + 1) = 1
    rw [if_neg (h c (Nat.le_refl _)), ih (c + 1) (fun j hj => h j (by omega))]
section PLN
variable {a4 : Int32} {a6 a9 v a29 : Nat → Int32} {wt : Nat → Bool} {ln : Nat → Nat} {op : Nat → Nat → Bool} {N k m : Nat}
theorem b158 (H : PMH a4 a6 a9 v wt ln op N) {B : Int32 × Int32 × Int32 × Int32 × Int32 × (Nat → Int32)} (hB : B = aX10_beginBy_13 a6 a9 v 6 (nI k) (0 : Int32) (a4 - (1 : Int32)) a29) (hd : ∀ j : Nat, j < N → B.2.2.2.2.2 j = pdg wt k j) {h : Nat} (hh : h ≤ 12) : ∀ n : Nat, n ≤ N → aX10_beginBy_158 a4 a6 a9 v a29 (nI k) (nI h) n = nI (plC wt ln (plD wt k) h n) := by
  intro n
  induction n with
  | zero => intro _; rfl
  | succ n ih =>
    intro hn
    have N5 := H.2.1
    have e := ih (by omega)
    have cI : (nI n).toNatClampNeg = n := nI_clamp (by omega)
    rw [aX10_beginBy_158, ← hB, cI, hd n (by omega), e]
    show _ = nI (plC wt ln (plD wt k) h n + (if wt n = true ∧ plD wt k n ≤ h ∧ h < plD wt k n + ln n then 1 else 0))
    have z0 : ∀ x : Int32, x + (0 : Int32) = x := fun x => by grind
    unfold pdg
    by_cases w : wt n = true
    · have l := H.2.2.2.2.1 n w
      have dlt : plD wt k n < 12 := Nat.mod_lt _ (by decide)
      rw [if_pos w, if_neg (show ¬ nI (plD wt k n) < 0 from fun y => absurd ((n_lt (b := 0) (by omega) (by omega)).mp y) (Nat.not_lt_zero _)), l.1, nI_add]
      have q := in32 (nI h) (nI (plD wt k n)) (nI (plD wt k n + ln n) - (1 : Int32))
      have le2 : nI h ≤ nI (plD wt k n + ln n) - (1 : Int32) ↔ h < plD wt k n + ln n := by
        rw [Int32.le_iff_toInt_le, Int32.toInt_sub, nI_toInt (by omega), nI_toInt (by omega)]
        have e1 : (1 : Int32).toInt = 1 := rfl
        rw [e1, Int.bmod_eq_of_le (by omega) (by omega)]
        omega
      rw [n_le (by omega) (by omega), le2] at q
      by_cases y : plD wt k n ≤ h ∧ h < plD wt k n + ln n
      · rw [if_neg (fun x => q.mp x y), if_pos ⟨w, y⟩, n_s]
      · rw [if_pos (q.mpr y), if_neg (fun x => y x.2), z0]; rfl
    · rw [if_neg w, if_pos (by decide), if_neg (fun x => w x.1), z0]; rfl
theorem b145 (H : PMH a4 a6 a9 v wt ln op N) {B : Int32 × Int32 × Int32 × Int32 × Int32 × (Nat → Int32)} (hB : B = aX10_beginBy_13 a6 a9 v 6 (nI k) (0 : Int32) (a4 - (1 : Int32)) a29) (hd : ∀ j : Nat, j < N → B.2.2.2.2.2 j = pdg wt k j) {E : Nat} (hE : B.2.2.2.1 = nI E) (E12 : E ≤ 12) (hm : m ≤ 4) (hC : ∀ h : Nat, plC wt ln (plD wt k) h N < 100) : ∀ n h : Nat, h ≤ E → E - h < n → ∀ r, r = aX10_beginBy_145 a4 a6 a9 v a29 (nI k) (nI m) n (nI h) → ((∀ x : Nat, h ≤ x → x < E → plC wt ln (plD wt k) x N ≤ m) → r.1 = 0) ∧ ((¬ ∀ x : Nat, h ≤ x → x < E → plC wt ln (plD wt k) x N ≤ m) → r.1 = 1 ∧ r.2.1 = 100) := by
  intro n
  induction n with
  | zero => intro h h1 h2; omega
  | succ n ih =>
    intro h h1 h2 r hr
    have aN : a4.toNatClampNeg = N := by rw [H.1]; exact nI_clamp (by have := H.2.1; omega)
    rw [aX10_beginBy_145, ← hB, hE, aN, b158 H hB hd (by omega) N (Nat.le_refl _), n_s] at hr
    by_cases y : nI E ≤ nI h
    · have y2 := (n_le (by omega) (by omega)).mp y
      rw [if_pos y] at hr
      subst hr
      exact ⟨fun _ => rfl, fun z => absurd (fun x x1 x2 => by omega) z⟩
    · have y2 : ¬ E ≤ h := fun x => y ((n_le (by omega) (by omega)).mpr x)
      rw [if_neg y] at hr
      have c := hC h
      by_cases q : nI (plC wt ln (plD wt k) h N) ≤ nI m
      · have q2 := (n_le (by omega) (by omega)).mp q
        rw [if_pos q] at hr
        have I := ih (h + 1) (by omega) (by omega) r hr
        have both : (∀ x : Nat, h ≤ x → x < E → plC wt ln (plD wt k) x N ≤ m) ↔ (∀ x : Nat, h + 1 ≤ x → x < E → plC wt ln (plD wt k) x N ≤ m) := ⟨fun z x x1 x2 => z x (by omega) x2, fun z x x1 x2 => by
          by_cases u : x = h
          · rw [u]; exact q2
          · exact z x (by omega) x2⟩
        exact ⟨fun z => I.1 (both.mp z), fun z => I.2 (fun u => z (both.mpr u))⟩
      · have q2 : ¬ plC wt ln (plD wt k) h N ≤ m := fun x => q ((n_le (by omega) (by omega)).mpr x)
        rw [if_neg q] at hr
        subst hr
        exact ⟨fun z => absurd (z h (Nat.le_refl _) (by omega)) q2, fun _ => ⟨rfl, rfl⟩⟩
end PLN
