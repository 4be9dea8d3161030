def pdg (wt : Nat → Bool) (k j : Nat) : Int32 := if wt j = true then nI (plD wt k j) else -1
def PRl (wt : Nat → Bool) (z : Nat × Nat) (t4 : Nat → Int32) (t8 : Int32) : Prop := (z.1 = 100 ∧ t8 = 13 ∧ ∀ j : Nat, j < 5 → t4 j = -1) ∨ (z.1 ≤ 12 ∧ t8 = nI z.1 ∧ ∀ j : Nat, j < 5 → t4 j = pdg wt z.2 j)
def PLH (a0 a1 a2 : Nat → Int32) (a6 a7 : Int32) (wt : Nat → Bool) (ln : Nat → Nat) (op : Nat → Nat → Bool) (m s7 : Nat) : Prop :=
  (∀ c : Nat, c < 5 → (a0 c = 0 ↔ ¬ wt c = true)) ∧ (∀ c : Nat, c < 5 → wt c = true → a1 c = nI (ln c) ∧ 1 ≤ ln c ∧ ln c ≤ 4) ∧ (∀ c b : Nat, c < 5 → wt c = true → b < 12 → (((a2 c >>> (nI b &&& 31)) &&& (1 : Int32)) = 0 ↔ ¬ op c b = true)) ∧
  (∀ c b : Nat, wt c = true → op c b = true → b + ln c ≤ 12) ∧ (a6 = nI m ∧ m ≤ 4) ∧ (a7 = nI s7 ∧ s7 < 100) ∧ ∀ be : Nat → Nat, plOk wt op be 5 → plS wt ln 5 ≤ m * plE wt ln be 5 → s7 ≤ plE wt ln be 5
theorem PRl_le {wt : Nat → Bool} {z : Nat × Nat} {t4 : Nat → Int32} {t8 : Int32} (h : PRl wt z t4 t8) : z.1 ≤ 100 := by
  rcases h with h | h <;> omega
theorem cbs_iff {a7 t8 x : Int32} : rX7_canBeSooner a7 t8 x = 0 ↔ t8 ≤ x ∨ t8 ≤ a7 := by
  unfold rX7_canBeSooner
  by_cases h1 : t8 ≤ x
  · rw [if_pos h1]; exact ⟨fun _ => Or.inl h1, fun _ => rfl⟩
  · rw [if_neg h1]
    by_cases h2 : t8 ≤ a7
    · rw [if_pos h2]; exact ⟨fun _ => Or.inr h2, fun _ => rfl⟩
    · rw [if_neg h2]; exact ⟨fun h => absurd h (by decide), fun h => absurd h (fun q => q.elim h1 h2)⟩
theorem cbs_no {wt : Nat → Bool} {z : Nat × Nat} {t4 : Nat → Int32} {t8 : Int32} {s7 e v : Nat} (h : PRl wt z t4 t8) (hs : s7 < 100) (he : e < 100) (hc : rX7_canBeSooner (nI s7) t8 (nI e) = 0) (hv : v = 100 ∨ (v ≤ 12 ∧ e ≤ v ∧ s7 ≤ v)) : z.1 ≤ v := by
  have c := cbs_iff.mp hc
  rcases h with ⟨h1, h2, -⟩ | ⟨h1, h2, -⟩
  · rw [h2, show (13 : Int32) = nI 13 from rfl, n_le (by omega) (by omega), n_le (by omega) (by omega)] at c
    omega
  · rw [h2, n_le (by omega) (by omega), n_le (by omega) (by omega)] at c
    omega
theorem cbs_yes {wt : Nat → Bool} {z : Nat × Nat} {t4 : Nat → Int32} {t8 : Int32} {s7 e : Nat} (h : PRl wt z t4 t8) (hs : s7 < 100) (he : e < 100) (hc : ¬ rX7_canBeSooner (nI s7) t8 (nI e) = 0) : e < z.1 := by
  have c := fun q => hc (cbs_iff.mpr (Or.inl q))
  rcases h with ⟨h1, h2, -⟩ | ⟨h1, h2, -⟩
  · omega
  · rw [h2, n_le (by omega) (by omega)] at c
    exact Nat.not_le.mp c
theorem plfits {a0 a1 a2 : Nat → Int32} {a6 a7 : Int32} {wt : Nat → Bool} {ln : Nat → Nat} {op : Nat → Nat → Bool} {m s7 : Nat} (H : PLH a0 a1 a2 a6 a7 wt ln op m s7) {c b : Nat} (hc : c < 5) (w : wt c = true) (hb : b < 12) {t5 : Nat → Int32} {T : Nat → Nat} (hT : ∀ h : Nat, h < 12 → t5 h = nI (T h) ∧ T h < 100) : rX7_fits a1 a2 t5 a6 (nI c) (nI b) = 0 ↔ (¬ op c b = true ∨ ∃ h : Nat, b ≤ h ∧ h < b + ln c ∧ h < 12 ∧ m ≤ T h) := by
  unfold rX7_fits
  have l := H.2.1 c hc w
  rw [nI_clamp (by omega)]
  by_cases q : ((a2 c >>> (nI b &&& 31)) &&& (1 : Int32)) = 0
  · rw [if_pos q]
    exact ⟨fun _ => Or.inl ((H.2.2.1 c b hc w hb).mp q), fun _ => rfl⟩
  · rw [if_neg q, fits17 hc l.1 l.2.2 hb H.2.2.2.2.1.1 H.2.2.2.2.1.2 hT 13 b (by omega) (by omega)]
    have o := fun z => q ((H.2.2.1 c b hc w hb).mpr z)
    exact ⟨Or.inr, fun h => h.elim (fun z => absurd z o) id⟩
theorem leaf_eq {a0 a1 a2 : Nat → Int32} {a6 a7 : Int32} {wt : Nat → Bool} {ln : Nat → Nat} {op : Nat → Nat → Bool} {m s7 : Nat} (H : PLH a0 a1 a2 a6 a7 wt ln op m s7) {q : Nat} {t3 t4 : Nat → Int32} {t8 : Int32} {z : Nat × Nat} (h3 : ∀ j : Nat, j < 5 → t3 j = pdg wt q j) (ho : plOk wt op (plD wt q) 5) (hc : ∀ h : Nat, h < 12 → plC wt ln (plD wt q) h 5 ≤ m) (hz : PRl wt z t4 t8) : PRl wt (plF (fun k => plV wt ln op m (plD wt k)) 1 q z) (sX7_keepIfSooner_4 t3 t4 a7 t8 (nI (plE wt ln (plD wt q) 5))) (sX7_keepIfSooner_8 a7 t8 (nI (plE wt ln (plD wt q) 5))) := by
  have e12 := plE_le H.2.2.2.1 5 ho
  have hv : plV wt ln op m (plD wt q) = plE wt ln (plD wt q) 5 := if_pos ⟨ho, fun h hh => hc h (by omega)⟩
  have hcs := plV_cases (be := plD wt q) (m := m) H.2.2.2.1 H.2.2.2.2.2.2
  have h7 := H.2.2.2.2.2.1
  show PRl wt (if plV wt ln op m (plD wt q) < z.1 then (plV wt ln op m (plD wt q), q) else z) _ _
  unfold sX7_keepIfSooner_4 sX7_keepIfSooner_8
  rw [h7.1]
  by_cases k : rX7_canBeSooner (nI s7) t8 (nI (plE wt ln (plD wt q) 5)) = 0
  · have := cbs_no hz h7.2 (by omega) k (v := plV wt ln op m (plD wt q)) (by omega)
    rw [if_pos k, if_pos k, if_neg (by omega)]
    exact hz
  · have := cbs_yes hz h7.2 (by omega) k
    rw [if_neg k, if_neg k, if_pos (by omega)]
    refine Or.inr ⟨by show plV wt ln op m (plD wt q) ≤ 12; omega, by show _ = nI (plV wt ln op m (plD wt q)); rw [hv], fun j hj => ?_⟩
    show (if 0 ≤ j ∧ j < 0 + 5 then t3 (0 + (j - 0)) else t4 j) = pdg wt q j
    rw [if_pos (by omega), Nat.zero_add, Nat.sub_zero]
    exact h3 j hj
/-- a block of codes whose case c can't begin then: none is of use -/
theorem blk_100 {wt : Nat → Bool} {ln : Nat → Nat} {op : Nat → Nat → Bool} {m c b : Nat} {be g : Nat → Nat} (hc : c < 5) (w : wt c = true) (hg : ∀ j : Nat, j < c → wt j = true → g j = be j) (hb : g c = b) (hn : ¬ op c b = true ∨ ∃ h : Nat, b ≤ h ∧ h < b + ln c ∧ h < 12 ∧ m ≤ plC wt ln be h c) : plV wt ln op m g = 100 := by
  refine if_neg (fun ⟨h1, h2⟩ => ?_)
  rcases hn with hn | ⟨h, k1, k2, -, k4⟩
  · exact hn (hb ▸ h1 c hc w)
  · have e := plE_ge (ln := ln) (be := g) (n := 5) hc w
    rw [hb] at e
    have z := h2 h (by omega)
    have y := plC_mono (wt := wt) (ln := ln) (be := g) (h := h) (c := c + 1) (4 - c)
    rw [show c + 1 + (4 - c) = 5 by omega] at y
    have x : plC wt ln g h (c + 1) = plC wt ln g h c + 1 := by
      show plC wt ln g h c + (if wt c = true ∧ g c ≤ h ∧ h < g c + ln c then 1 else 0) = _
      rw [if_pos ⟨w, by omega, by omega⟩]
    rw [plC_congr c hg] at x
    omega
