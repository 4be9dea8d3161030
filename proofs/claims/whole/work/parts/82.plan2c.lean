/-- what the search does from level c on, with the digits be below -/
def PFQ (wt : Nat → Bool) (ln : Nat → Nat) (op : Nat → Nat → Bool) (m d c : Nat) (rc : Int32 → PT → PT) : Prop :=
  ∀ (q : Nat) (be : Nat → Nat) (t3 t4 t5 : Nat → Int32) (t8 : Int32) (z : Nat × Nat), (∀ j : Nat, j < c → wt j = true → t3 j = nI (be j)) → (∀ j : Nat, j < 5 → ¬ wt j = true → t3 j = -1) → (∀ h : Nat, h < 12 → t5 h = nI (plC wt ln be h c)) → plOk wt op be c → (∀ h : Nat, h < 12 → plC wt ln be h c ≤ m) → (∀ k : Nat, k / plW wt d c = q → ∀ j : Nat, j < c → wt j = true → plD wt k j = be j) → PRl wt z t4 t8 → ∀ r : PT, r = rc (nI (plE wt ln be c)) (t3, t4, t5, t8) →
    PRl wt (plF (fun k => plV wt ln op m (plD wt k)) (plW wt d c) (q * plW wt d c) z) r.2.1 r.2.2.2 ∧ (∀ j : Nat, j < c → r.1 j = t3 j) ∧ (∀ j : Nat, j < 5 → ¬ wt j = true → r.1 j = t3 j) ∧ ∀ h : Nat, h < 12 → r.2.2.1 h = t5 h
section PLC
variable {a0 a1 a2 : Nat → Int32} {a6 a7 : Int32} {wt : Nat → Bool} {ln : Nat → Nat} {op : Nat → Nat → Bool} {m s7 : Nat}
theorem lp_eq (H : PLH a0 a1 a2 a6 a7 wt ln op m s7) {d c : Nat} (hcd : c + d + 1 = 5) (w : wt c = true) {rc : Int32 → PT → PT} (RC : PFQ wt ln op m d (c + 1) rc) {q : Nat} {be : Nat → Nat} (ho : plOk wt op be c) (hle : ∀ h : Nat, h < 12 → plC wt ln be h c ≤ m) (hd : ∀ k : Nat, k / plW wt (d + 1) c = q → ∀ j : Nat, j < c → wt j = true → plD wt k j = be j) : ∀ n b : Nat, b ≤ 12 → 12 - b < n → ∀ (t3 t4 t5 : Nat → Int32) (t8 : Int32) (z : Nat × Nat), (∀ j : Nat, j < c → wt j = true → t3 j = nI (be j)) → (∀ j : Nat, j < 5 → ¬ wt j = true → t3 j = -1) → (∀ h : Nat, h < 12 → t5 h = nI (plC wt ln be h c)) → PRl wt z t4 t8 → ∀ r : PT, r = lpX7 a1 a2 a6 a7 rc (nI c) (nI (plE wt ln be c)) n (nI b) t3 t4 t5 t8 →
    PRl wt (plF (fun k => plV wt ln op m (plD wt k)) ((12 - b) * plW wt d (c + 1)) ((12 * q + b) * plW wt d (c + 1)) z) r.2.1 r.2.2.2 ∧ (∀ j : Nat, j < c → r.1 j = t3 j) ∧ (∀ j : Nat, j < 5 → ¬ wt j = true → r.1 j = t3 j) ∧ ∀ h : Nat, h < 12 → r.2.2.1 h = t5 h := by
  have hc5 : c < 5 := by omega
  have l := H.2.1 c hc5 w
  have h4 := H.2.2.2.2.1
  have h7 := H.2.2.2.2.2.1
  have e12 := plE_le H.2.2.2.1 c ho
  have cC : (nI c).toNatClampNeg = c := nI_clamp (by omega)
  have W0 := plW_pos (wt := wt) d (c + 1)
  have W1 : plW wt (d + 1) c = 12 * plW wt d (c + 1) := by
    show (if wt c = true then 12 else 1) * plW wt d (c + 1) = _
    rw [if_pos w]
  have blk : ∀ k b : Nat, b < 12 → k / plW wt d (c + 1) = 12 * q + b → (∀ j : Nat, j < c → wt j = true → plD wt k j = be j) ∧ plD wt k c = b := by
    intro k b hb hk
    refine ⟨hd k ?_, ?_⟩
    · rw [W1, Nat.mul_comm, ← Nat.div_div_eq_div_mul, hk]; omega
    · unfold plD
      rw [show 4 - c = d by omega, hk]; omega
  intro n
  induction n with
  | zero => intro b h1 h2; omega
  | succ n ih =>
    intro b h1 h2 t3 t4 t5 t8 z g3 gn g5 hz r hr
    rw [lpX7] at hr
    by_cases q2 : (12 : Int32) ≤ nI b
    · have p := (n_le (a := 12) (by omega) (by omega)).mp q2
      rw [if_pos q2] at hr
      subst hr
      rw [show 12 - b = 0 by omega, Nat.zero_mul]
      exact ⟨hz, fun _ _ => rfl, fun _ _ _ => rfl, fun _ _ => rfl⟩
    · have p : ¬ 12 ≤ b := fun y => q2 ((n_le (a := 12) (by omega) (by omega)).mpr y)
      have em : (if nI (plE wt ln be c) < nI b + a1 ((nI c).toNatClampNeg) then nI b + a1 ((nI c).toNatClampNeg) else nI (plE wt ln be c)) = nI (max (plE wt ln be c) (b + ln c)) := by
        rw [cC, l.1, nI_add]
        by_cases y : nI (plE wt ln be c) < nI (b + ln c)
        · have := (n_lt (by omega) (by omega)).mp y
          rw [if_pos y, Nat.max_eq_right (by omega)]
        · have y2 : ¬ plE wt ln be c < b + ln c := fun x => y ((n_lt (by omega) (by omega)).mpr x)
          rw [if_neg y, Nat.max_eq_left (by omega)]
      rw [if_neg q2, em] at hr
      have split1 : (12 - b) * plW wt d (c + 1) = plW wt d (c + 1) + (12 - (b + 1)) * plW wt d (c + 1) := by
        rw [show 12 - b = (12 - (b + 1)) + 1 by omega, Nat.add_mul, Nat.one_mul, Nat.add_comm]
      have split2 : (12 * q + b) * plW wt d (c + 1) + plW wt d (c + 1) = (12 * q + (b + 1)) * plW wt d (c + 1) := by
        rw [← Nat.add_assoc, Nat.add_mul (12 * q + b) 1, Nat.one_mul]
      by_cases q3 : rX7_canBeSooner a7 t8 (nI (max (plE wt ln be c) (b + ln c))) = 0
      · rw [if_pos q3] at hr
        rw [h7.1] at q3
        subst hr
        rw [plF_id]
        · exact ⟨hz, fun _ _ => rfl, fun _ _ _ => rfl, fun _ _ => rfl⟩
        · intro k k1 k2
          have y1 : 12 * q + b ≤ k / plW wt d (c + 1) := (Nat.le_div_iff_mul_le W0).mpr k1
          have y2 : k / plW wt d (c + 1) < 12 * q + 12 := by
            rw [Nat.div_lt_iff_lt_mul W0]
            rw [← Nat.add_mul] at k2
            rw [show 12 * q + 12 = 12 * q + b + (12 - b) by omega]
            exact k2
          have B := blk k (k / plW wt d (c + 1) - 12 * q) (by omega) (by omega)
          have V := plV_cases (be := plD wt k) (m := m) H.2.2.2.1 H.2.2.2.2.2.2
          have E1 := plE_ge (ln := ln) (be := plD wt k) (n := 5) hc5 w
          have E2 := plE_mono (wt := wt) (ln := ln) (be := plD wt k) (c := c) (5 - c)
          rw [show c + (5 - c) = 5 by omega, plE_congr c B.1] at E2
          exact cbs_no hz h7.2 (by omega) q3 (v := plV wt ln op m (plD wt k)) (by omega)
      · rw [if_neg q3] at hr
        have gT : ∀ h : Nat, h < 12 → t5 h = nI (plC wt ln be h c) ∧ plC wt ln be h c < 100 := fun h hh => ⟨g5 h hh, by have := hle h hh; omega⟩
        have F := plfits H hc5 w (b := b) (by omega) gT
        by_cases q4 : rX7_fits a1 a2 t5 a6 (nI c) (nI b) = 0
        · rw [if_pos q4, n_s] at hr
          have hbad := F.mp q4
          have I := ih (b + 1) (by omega) (by omega) t3 t4 t5 t8 z g3 gn g5 hz r hr
          rw [split1, plF_add, split2, plF_id (plW wt d (c + 1)) ((12 * q + b) * plW wt d (c + 1)) z]
          · exact I
          · intro k k1 k2
            have y : k / plW wt d (c + 1) = 12 * q + b := Nat.div_eq_of_lt_le k1 (by rw [Nat.add_mul (12 * q + b) 1, Nat.one_mul]; exact k2)
            have B := blk k b (by omega) y
            rw [blk_100 hc5 w B.1 B.2 hbad]
            exact PRl_le hz
        · rw [if_neg q4, n_s, cC] at hr
          have good := fun y => q4 (F.mpr y)
          have gop : op c b = true := Classical.byContradiction fun y => good (Or.inl y)
          have ghr : ∀ h : Nat, b ≤ h → h < b + ln c → h < 12 → plC wt ln be h c < m := fun h y1 y2 y3 => Nat.not_le.mp fun y4 => good (Or.inr ⟨h, y1, y2, y3, y4⟩)
          obtain ⟨r1, hr1⟩ : ∃ r1 : PT, r1 = rc (nI (max (plE wt ln be c) (b + ln c))) (upd t3 c (nI b), t4, sX7_occupy_5 a1 t5 (nI c) (nI b) (1 : Int32), t8) := ⟨_, rfl⟩
          rw [← hr1] at hr
          obtain ⟨b2, hb2⟩ : ∃ b2 : Nat → Nat, b2 = fun j => if j = c then b else be j := ⟨_, rfl⟩
          have bc : b2 c = b := by rw [hb2]; exact if_pos rfl
          have bj : ∀ j : Nat, j < c → wt j = true → b2 j = be j := fun j hj _ => by rw [hb2]; exact if_neg (by omega)
          have E' : plE wt ln b2 (c + 1) = max (plE wt ln be c) (b + ln c) := by
            show (if wt c = true then max (plE wt ln b2 c) (b2 c + ln c) else plE wt ln b2 c) = _
            rw [if_pos w, plE_congr c bj, bc]
          have C' : ∀ h : Nat, plC wt ln b2 h (c + 1) = plC wt ln be h c + (if b ≤ h ∧ h < b + ln c then 1 else 0) := fun h => by
            show plC wt ln b2 h c + (if wt c = true ∧ b2 c ≤ h ∧ h < b2 c + ln c then 1 else 0) = _
            rw [plC_congr c bj, bc]
            simp only [w, true_and]
          have oc : ∀ (p2 : Int32) (y : Nat → Int32) (h : Nat), sX7_occupy_5 a1 y (nI c) (nI b) p2 h = if b ≤ h ∧ h < b + ln c ∧ h < 12 then y h + p2 else y h := fun p2 y h => occ3 hc5 l.1 l.2.2 (by omega) 13 b y (by omega) (by omega) h
          have R1 := RC (12 * q + b) b2 (upd t3 c (nI b)) t4 (sX7_occupy_5 a1 t5 (nI c) (nI b) (1 : Int32)) t8 z (fun j hj wj => by
              rw [upd_if]
              by_cases y : j = c
              · rw [if_pos y, y, bc]
              · rw [if_neg y, g3 j (by omega) wj, bj j (by omega) wj]) (fun j hj wj => by
              rw [upd_if, if_neg (fun y : j = c => wj (y ▸ w))]
              exact gn j hj wj) (fun h hh => by
              rw [oc, C', g5 h hh]
              by_cases y : b ≤ h ∧ h < b + ln c
              · rw [if_pos ⟨y.1, y.2, hh⟩, if_pos y, n_s]
              · rw [if_neg (fun x => y ⟨x.1, x.2.1⟩), if_neg y, Nat.add_zero]) (fun j hj wj => by
              by_cases y : j = c
              · rw [y, bc]; exact gop
              · rw [bj j (by omega) wj]; exact ho j (by omega) wj) (fun h hh => by
              rw [C']
              by_cases y : b ≤ h ∧ h < b + ln c
              · rw [if_pos y]; exact ghr h y.1 y.2 hh
              · rw [if_neg y]; exact hle h hh) (fun k hk j hj wj => by
              have B := blk k b (by omega) hk
              by_cases y : j = c
              · rw [y, bc]; exact B.2
              · rw [bj j (by omega) wj]; exact B.1 j (by omega) wj) hz r1 (by rw [E']; exact hr1)
          obtain ⟨R2, R3, R4, R5⟩ := R1
          have g3' : ∀ j : Nat, j < c → r1.1 j = t3 j := fun j hj => by
            rw [R3 j (by omega), upd_if, if_neg (by omega)]
          have gn' : ∀ j : Nat, j < 5 → ¬ wt j = true → r1.1 j = t3 j := fun j hj wj => by
            rw [R4 j hj wj, upd_if, if_neg (fun y : j = c => wj (y ▸ w))]
          have g5' : ∀ h : Nat, h < 12 → sX7_occupy_5 a1 r1.2.2.1 (nI c) (nI b) (-1 : Int32) h = t5 h := fun h hh => by
            rw [oc, R5 h hh, oc]
            by_cases y : b ≤ h ∧ h < b + ln c ∧ h < 12
            · rw [if_pos y, if_pos y]
              grind
            · rw [if_neg y, if_neg y]
          have I := ih (b + 1) (by omega) (by omega) r1.1 r1.2.1 (sX7_occupy_5 a1 r1.2.2.1 (nI c) (nI b) (-1 : Int32)) r1.2.2.2 _ (fun j hj wj => by rw [g3' j hj]; exact g3 j hj wj) (fun j hj wj => by rw [gn' j hj wj]; exact gn j hj wj) (fun h hh => by rw [g5' h hh]; exact g5 h hh) R2 r hr
          rw [split1, plF_add, split2]
          exact ⟨I.1, fun j hj => (I.2.1 j hj).trans (g3' j hj), fun j hj wj => (I.2.2.1 j hj wj).trans (gn' j hj wj), fun h hh => (I.2.2.2 h hh).trans (g5' h hh)⟩
end PLC
