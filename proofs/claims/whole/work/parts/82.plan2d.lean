section PLD
variable {a0 a1 a2 : Nat → Int32} {a6 a7 : Int32} {wt : Nat → Bool} {ln : Nat → Nat} {op : Nat → Nat → Bool} {m s7 : Nat}
theorem pf_eq (H : PLH a0 a1 a2 a6 a7 wt ln op m s7) : ∀ d c : Nat, c + d = 5 → PFQ wt ln op m d c (pfX7 a0 a1 a2 a6 a7 d (nI c)) := by
  intro d
  induction d with
  | zero =>
    intro c hc q be t3 t4 t5 t8 z g3 gn g5 ho hle hd hz r hr
    have c5 : c = 5 := by omega
    subst c5
    have B := hd q (Nat.div_one q)
    have e1 : plE wt ln be 5 = plE wt ln (plD wt q) 5 := plE_congr 5 (fun j hj wj => (B j hj wj).symm)
    subst hr
    show PRl wt (plF _ 1 (q * 1) z) (sX7_keepIfSooner_4 t3 t4 a7 t8 (nI (plE wt ln be 5))) (sX7_keepIfSooner_8 a7 t8 (nI (plE wt ln be 5))) ∧ _ ∧ _ ∧ _
    rw [Nat.mul_one, e1]
    refine ⟨leaf_eq H (fun j hj => ?_) (fun j hj wj => ?_) (fun h hh => ?_) hz, fun _ _ => rfl, fun _ _ _ => rfl, fun _ _ => rfl⟩
    · unfold pdg
      by_cases wj : wt j = true
      · rw [if_pos wj, g3 j hj wj, B j hj wj]
      · rw [if_neg wj]; exact gn j hj wj
    · rw [B j hj wj]; exact ho j hj wj
    · rw [plC_congr 5 B]; exact hle h hh
  | succ d ih =>
    intro c hc q be t3 t4 t5 t8 z g3 gn g5 ho hle hd hz r hr
    have ih1 := ih (c + 1) (by omega)
    have cC : (nI c).toNatClampNeg = c := nI_clamp (by omega)
    by_cases w : wt c = true
    · have hr2 : r = lpX7 a1 a2 a6 a7 (pfX7 a0 a1 a2 a6 a7 d (nI c + (1 : Int32))) (nI c) (nI (plE wt ln be c)) 13 (nI 0) t3 t4 t5 t8 := by
        rw [hr]
        show (if a0 ((nI c).toNatClampNeg) = 0 then _ else _) = _
        rw [cC]
        exact if_neg (fun y => (H.1 c (by omega)).mp y w)
      rw [n_s] at hr2
      have L := lp_eq H (by omega) w ih1 ho hle hd 13 0 (by omega) (by omega) t3 t4 t5 t8 z g3 gn g5 hz r hr2
      have W1 : plW wt (d + 1) c = 12 * plW wt d (c + 1) := by
        show (if wt c = true then 12 else 1) * plW wt d (c + 1) = _
        rw [if_pos w]
      rw [W1, show q * (12 * plW wt d (c + 1)) = (12 * q + 0) * plW wt d (c + 1) by show q * (12 * plW wt d (c + 1)) = 12 * q * plW wt d (c + 1); rw [← Nat.mul_assoc, Nat.mul_comm q 12]]
      exact L
    · have hr2 : r = pfX7 a0 a1 a2 a6 a7 d (nI c + (1 : Int32)) (nI (plE wt ln be c)) (t3, t4, t5, t8) := by
        rw [hr]
        show (if a0 ((nI c).toNatClampNeg) = 0 then _ else _) = _
        rw [cC]
        exact if_pos ((H.1 c (by omega)).mpr w)
      rw [n_s] at hr2
      have W1 : plW wt (d + 1) c = plW wt d (c + 1) := by
        show (if wt c = true then 12 else 1) * plW wt d (c + 1) = _
        rw [if_neg w, Nat.one_mul]
      have E1 : plE wt ln be (c + 1) = plE wt ln be c := if_neg w
      have C1 : ∀ h : Nat, plC wt ln be h (c + 1) = plC wt ln be h c := fun h => by
        show plC wt ln be h c + (if wt c = true ∧ be c ≤ h ∧ h < be c + ln c then 1 else 0) = _
        rw [if_neg (fun y => w y.1)]; rfl
      have jc : ∀ j : Nat, j < c + 1 → wt j = true → j < c := fun j hj wj => by
        have : j ≠ c := fun y => w (y ▸ wj)
        omega
      have I := ih1 q be t3 t4 t5 t8 z (fun j hj wj => g3 j (jc j hj wj) wj) gn (fun h hh => by rw [C1]; exact g5 h hh) (fun j hj wj => ho j (jc j hj wj) wj) (fun h hh => by rw [C1]; exact hle h hh) (fun k hk j hj wj => hd k (by rw [W1]; exact hk) j (jc j hj wj) wj) hz r (by rw [E1]; exact hr2)
      rw [W1]
      exact ⟨I.1, fun j hj => I.2.1 j (by omega), I.2.2.1, I.2.2.2⟩
theorem cl_top (H : PLH a0 a1 a2 a6 a7 wt ln op m s7) {t3 t4 t5 : Nat → Int32} (h3 : ∀ j : Nat, j < 5 → t3 j = -1) (h4 : ∀ j : Nat, j < 5 → t4 j = -1) (h5 : ∀ h : Nat, h < 12 → t5 h = 0) : PRl wt (plF (fun k => plV wt ln op m (plD wt k)) (plW wt 5 0) 0 (100, 0)) (pfX7 a0 a1 a2 a6 a7 5 0 0 (t3, t4, t5, 13)).2.1 (pfX7 a0 a1 a2 a6 a7 5 0 0 (t3, t4, t5, 13)).2.2.2 := by
  have z := (pf_eq H 5 0 rfl 0 (fun _ => 0) t3 t4 t5 13 (100, 0) (fun j hj => absurd hj (Nat.not_lt_zero _)) (fun j hj _ => h3 j hj) h5 (fun j hj => absurd hj (Nat.not_lt_zero _)) (fun _ _ => Nat.zero_le _) (fun k _ j hj => absurd hj (Nat.not_lt_zero _)) (Or.inl ⟨rfl, rfl, h4⟩) _ rfl).1
  rw [Nat.zero_mul] at z
  exact z
end PLD
