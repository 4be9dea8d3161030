section EQ4
variable {dy0 dy1 dy2 dy3 dy4 f g : Nat → Int32} {dy5 : Int32} {hu ca : Nat} {b : Int}
theorem up_s {f : Nat → Int32} {k : Nat} {x : Int32} : upd f k x k = x := pk_us
theorem up_n {f : Nat → Int32} {k j : Nat} {x : Int32} (h : j ≠ k) : upd f k x j = f j := by
  unfold upd
  exact if_neg h
theorem RD_0 (hD : RD dy0 dy1 dy2 dy3 dy4 dy5 f) {c : Nat} (hc : c < 4) (v : Int32) : RD (upd dy0 c v) dy1 dy2 dy3 dy4 dy5 (upd f c v) := by
  obtain ⟨d0, d1, d2, d3, d4, d5⟩ := hD
  refine ⟨fun j hj => ?_, fun j hj => ?_, fun j hj => ?_, fun j hj => ?_, fun j hj => ?_, ?_⟩
  · by_cases e : j = c
    · subst e; rw [up_s, up_s]
    · rw [up_n e, up_n e]; exact d0 j hj
  · rw [up_n (by omega)]; exact d1 j hj
  · rw [up_n (by omega)]; exact d2 j hj
  · rw [up_n (by omega)]; exact d3 j hj
  · rw [up_n (by omega)]; exact d4 j hj
  · rw [up_n (by omega)]; exact d5
theorem RD_1 (hD : RD dy0 dy1 dy2 dy3 dy4 dy5 f) {c : Nat} (hc : c < 4) (v : Int32) : RD dy0 (upd dy1 c v) dy2 dy3 dy4 dy5 (upd f (4 + c) v) := by
  obtain ⟨d0, d1, d2, d3, d4, d5⟩ := hD
  refine ⟨fun j hj => ?_, fun j hj => ?_, fun j hj => ?_, fun j hj => ?_, fun j hj => ?_, ?_⟩
  · rw [up_n (by omega)]; exact d0 j hj
  · by_cases e : j = c
    · subst e; rw [up_s, up_s]
    · rw [up_n e, up_n (by omega)]; exact d1 j hj
  · rw [up_n (by omega)]; exact d2 j hj
  · rw [up_n (by omega)]; exact d3 j hj
  · rw [up_n (by omega)]; exact d4 j hj
  · rw [up_n (by omega)]; exact d5
theorem RD_2 (hD : RD dy0 dy1 dy2 dy3 dy4 dy5 f) {c : Nat} (hc : c < 4) (v : Int32) : RD dy0 dy1 (upd dy2 c v) dy3 dy4 dy5 (upd f (8 + c) v) := by
  obtain ⟨d0, d1, d2, d3, d4, d5⟩ := hD
  refine ⟨fun j hj => ?_, fun j hj => ?_, fun j hj => ?_, fun j hj => ?_, fun j hj => ?_, ?_⟩
  · rw [up_n (by omega)]; exact d0 j hj
  · rw [up_n (by omega)]; exact d1 j hj
  · by_cases e : j = c
    · subst e; rw [up_s, up_s]
    · rw [up_n e, up_n (by omega)]; exact d2 j hj
  · rw [up_n (by omega)]; exact d3 j hj
  · rw [up_n (by omega)]; exact d4 j hj
  · rw [up_n (by omega)]; exact d5
theorem RD_3 (hD : RD dy0 dy1 dy2 dy3 dy4 dy5 f) {c : Nat} (hc : c < 5) (v : Int32) : RD dy0 dy1 dy2 (upd dy3 c v) dy4 dy5 (upd f (12 + c) v) := by
  obtain ⟨d0, d1, d2, d3, d4, d5⟩ := hD
  refine ⟨fun j hj => ?_, fun j hj => ?_, fun j hj => ?_, fun j hj => ?_, fun j hj => ?_, ?_⟩
  · rw [up_n (by omega)]; exact d0 j hj
  · rw [up_n (by omega)]; exact d1 j hj
  · rw [up_n (by omega)]; exact d2 j hj
  · by_cases e : j = c
    · subst e; rw [up_s, up_s]
    · rw [up_n e, up_n (by omega)]; exact d3 j hj
  · rw [up_n (by omega)]; exact d4 j hj
  · rw [up_n (by omega)]; exact d5
theorem RD_4 (hD : RD dy0 dy1 dy2 dy3 dy4 dy5 f) {c : Nat} (hc : c < 5) (v : Int32) : RD dy0 dy1 dy2 dy3 (upd dy4 c v) dy5 (upd f (17 + c) v) := by
  obtain ⟨d0, d1, d2, d3, d4, d5⟩ := hD
  refine ⟨fun j hj => ?_, fun j hj => ?_, fun j hj => ?_, fun j hj => ?_, fun j hj => ?_, ?_⟩
  · rw [up_n (by omega)]; exact d0 j hj
  · rw [up_n (by omega)]; exact d1 j hj
  · rw [up_n (by omega)]; exact d2 j hj
  · rw [up_n (by omega)]; exact d3 j hj
  · by_cases e : j = c
    · subst e; rw [up_s, up_s]
    · rw [up_n e, up_n (by omega)]; exact d4 j hj
  · rw [up_n (by omega)]; exact d5
theorem RD_5 (hD : RD dy0 dy1 dy2 dy3 dy4 dy5 f) (v : Int32) : RD dy0 dy1 dy2 dy3 dy4 v (upd f 22 v) := by
  obtain ⟨d0, d1, d2, d3, d4, d5⟩ := hD
  refine ⟨fun j hj => ?_, fun j hj => ?_, fun j hj => ?_, fun j hj => ?_, fun j hj => ?_, ?_⟩
  · rw [up_n (by omega)]; exact d0 j hj
  · rw [up_n (by omega)]; exact d1 j hj
  · rw [up_n (by omega)]; exact d2 j hj
  · rw [up_n (by omega)]; exact d3 j hj
  · rw [up_n (by omega)]; exact d4 j hj
  · rw [up_s]
theorem nI_m1 {c : Nat} (h : c < 1000) : nI c ≠ -1 := fun e => by
  have h1 := nI_pos' (n := c) (by omega)
  rw [e] at h1
  exact absurd h1 (by decide)
theorem nI_i {c d : Nat} (hc : c < 1000) (hd : d < 1000) (e : nI c = nI d) : c = d := by
  have := congrArg Int32.toNatClampNeg e
  rw [kc c (by omega), kc d (by omega)] at this
  exact this
theorem DI_congr (h : ∀ k : Nat, k < 23 → f k = g k) (hc : ca ≤ 5) (hI : DI hu ca b f) : DI hu ca b g := by
  obtain ⟨i0, i1, i2, i3, i4, i5, i6⟩ := hI
  refine ⟨by rw [← h 22 (by omega)]; exact i0, fun j hj => by rw [← h j (by omega)]; exact i1 j hj, fun j hj => ?_, fun j hj hh => by rw [← h _ (by omega)]; exact i3 j hj hh, fun i j hi hj e => ?_, fun j hj => by rw [← h _ (by omega)]; exact i5 j hj, fun c hc => by rw [← h _ (by omega)]; exact i6 c hc⟩
  · rw [← h _ (by omega)]
    rcases i2 j hj with q | ⟨c, h1, h2, h3⟩
    · exact Or.inl q
    · exact Or.inr ⟨c, h1, h2, by rw [← h _ (by omega)]; exact h3⟩
  · rw [← h (4 + i) (by omega), ← h (4 + j) (by omega)] at e
    rw [← h (4 + i) (by omega)]
    exact i4 i j hi hj e
theorem DI_mono {b' : Int} (hb : b ≤ b') (hI : DI hu ca b f) : DI hu ca b' f := ⟨⟨hI.1.1, Int.le_trans hI.1.2 hb⟩, hI.2⟩
/-- a case is brought -/
theorem DI_bring (hc5 : ca ≤ 5) (hu4 : hu ≤ 4) (hI : DI hu ca b f) {c h : Nat} (hc : c < ca) (hh : h < hu) (s0 : f (12 + c) = 0) : DI hu ca b (upd (upd f (12 + c) 1) (4 + h) (nI c)) := by
  obtain ⟨i0, i1, i2, i3, i4, i5, i6⟩ := hI
  have e1 : ∀ j : Nat, j < 4 → j ≠ h → upd (upd f (12 + c) 1) (4 + h) (nI c) (4 + j) = f (4 + j) := fun j hj n => by rw [up_n (by omega), up_n (by omega)]
  have e2 : ∀ d : Nat, d ≠ c → upd (upd f (12 + c) 1) (4 + h) (nI c) (12 + d) = f (12 + d) := fun d n => by rw [up_n (by omega), up_n (by omega)]
  have e3 : upd (upd f (12 + c) 1) (4 + h) (nI c) (12 + c) = 1 := by rw [up_n (by omega), up_s]
  have no : ∀ j : Nat, j < 4 → f (4 + j) ≠ nI c := fun j hj e => by
    rcases i2 j hj with q | ⟨d, h1, h2, h3⟩
    · rw [q] at e; exact nI_m1 (by omega) e.symm
    · have := nI_i (by omega) (by omega) (h2.symm.trans e)
      subst this
      rw [s0] at h3
      exact absurd h3 (by decide)
  refine ⟨by rw [up_n (by omega), up_n (by omega)]; exact i0, fun j hj => by rw [up_n (by omega), up_n (by omega)]; exact i1 j hj, fun j hj => ?_, fun j hj hq => by rw [e1 j hj (by omega)]; exact i3 j hj hq, fun i j hi hj => ?_, fun j hj => by rw [up_n (by omega), up_n (by omega)]; exact i5 j hj, fun d hd => ?_⟩
  · by_cases q : j = h
    · subst q
      exact Or.inr ⟨c, hc, up_s, e3⟩
    · rw [e1 j hj q]
      rcases i2 j hj with q2 | ⟨d, h1, h2, h3⟩
      · exact Or.inl q2
      · refine Or.inr ⟨d, h1, h2, ?_⟩
        have : d ≠ c := fun e => by rw [e, s0] at h3; exact absurd h3 (by decide)
        rw [e2 d this]
        exact h3
  · by_cases q : i = h
    · subst q
      by_cases q2 : j = i
      · exact fun _ _ => q2.symm
      · rw [up_s, e1 j hj q2]
        exact fun e _ => absurd e.symm (no j hj)
    · by_cases q2 : j = h
      · subst q2
        rw [up_s, e1 i hi q]
        exact fun e _ => absurd e (no i hi)
      · rw [e1 i hi q, e1 j hj q2]
        exact i4 i j hi hj
  · by_cases q : d = c
    · rw [q, e3]; decide
    · rw [e2 d q]; exact i6 d hd
/-- a hut is drawn -/
theorem DI_draw (hI : DI hu ca b f) (hc5 : ca ≤ 5) {h : Nat} (hh : h < 4) {x : Int32} (x0 : 0 ≤ x) (x9 : x ≤ 9) : DI hu ca b (upd (upd f h x) (8 + h) 1) := by
  obtain ⟨i0, i1, i2, i3, i4, i5, i6⟩ := hI
  have e1 : ∀ j : Nat, j < 4 → upd (upd f h x) (8 + h) 1 (4 + j) = f (4 + j) := fun j hj => by rw [up_n (by omega), up_n (by omega)]
  have e2 : ∀ j : Nat, upd (upd f h x) (8 + h) 1 (12 + j) = f (12 + j) := fun j => by rw [up_n (by omega), up_n (by omega)]
  refine ⟨by rw [up_n (by omega), up_n (by omega)]; exact i0, fun j hj => ?_, fun j hj => ?_, fun j hj hq => by rw [e1 j hj]; exact i3 j hj hq, fun i j hi hj => by rw [e1 i hi, e1 j hj]; exact i4 i j hi hj, fun j hj => ?_, fun d hd => by rw [e2]; exact i6 d hd⟩
  · rw [up_n (by omega)]
    by_cases q : j = h
    · rw [q, up_s]; exact ⟨x0, x9⟩
    · rw [up_n q]; exact i1 j hj
  · rw [e1 j hj]
    rcases i2 j hj with q | ⟨d, h1, h2, h3⟩
    · exact Or.inl q
    · exact Or.inr ⟨d, h1, h2, by rw [e2]; exact h3⟩
  · by_cases q : j = h
    · rw [q, up_s]; exact Or.inr rfl
    · rw [up_n (by omega), up_n (by omega)]; exact i5 j hj
/-- a case ends: it is in no hut then -/
theorem DI_end (hc5 : ca ≤ 5) (hI : DI hu ca b f) {c : Nat} (hc : c < ca) {v : Int32} (v0 : 0 ≤ v) (v4 : v ≤ 4) {g : Nat → Int32} (hg1 : ∀ j : Nat, j < 4 → g (4 + j) = if f (4 + j) = nI c then -1 else f (4 + j)) (hg2 : g (12 + c) = v) (hg3 : ∀ k : Nat, k < 23 → (k < 4 ∨ 8 ≤ k) → k ≠ 12 + c → g k = f k) : DI hu ca b g := by
  obtain ⟨i0, i1, i2, i3, i4, i5, i6⟩ := hI
  have m1 : ∀ j : Nat, j < 4 → g (4 + j) ≠ -1 → g (4 + j) = f (4 + j) ∧ f (4 + j) ≠ nI c := fun j hj q => by
    rw [hg1 j hj] at q ⊢
    by_cases e : f (4 + j) = nI c
    · rw [if_pos e] at q; exact absurd rfl q
    · rw [if_neg e]; exact ⟨rfl, e⟩
  refine ⟨by rw [hg3 22 (by omega) (by omega) (by omega)]; exact i0, fun j hj => by rw [hg3 j (by omega) (by omega) (by omega)]; exact i1 j hj, fun j hj => ?_, fun j hj hq => ?_, fun i j hi hj e n => ?_, fun j hj => by rw [hg3 _ (by omega) (by omega) (by omega)]; exact i5 j hj, fun d hd => ?_⟩
  · by_cases q : g (4 + j) = -1
    · exact Or.inl q
    · have m := m1 j hj q
      rcases i2 j hj with q2 | ⟨d, h1, h2, h3⟩
      · exact absurd (m.1.trans q2) q
      · refine Or.inr ⟨d, h1, m.1.trans h2, ?_⟩
        have : d ≠ c := fun e => by rw [e] at h2; exact m.2 h2
        rw [hg3 _ (by omega) (by omega) (by omega)]
        exact h3
  · rw [hg1 j hj, i3 j hj hq]
    split <;> rfl
  · have mi := m1 i hi n
    have mj := m1 j hj (e ▸ n)
    rw [mi.1, mj.1] at e
    rw [mi.1] at n
    exact i4 i j hi hj e n
  · by_cases q : d = c
    · rw [q, hg2]; exact ⟨v0, v4⟩
    · rw [hg3 _ (by omega) (by omega) (by omega)]; exact i6 d hd
theorem DI_free (hI : DI hu ca b f) (hc5 : ca ≤ 5) {k : Nat} {v : Int32} (hk : (17 ≤ k ∧ k ≠ 22) ∨ (8 ≤ k ∧ k < 12 ∧ v = 0)) : DI hu ca b (upd f k v) := by
  obtain ⟨i0, i1, i2, i3, i4, i5, i6⟩ := hI
  have e1 : ∀ j : Nat, j < 4 → upd f k v (4 + j) = f (4 + j) := fun j hj => up_n (by omega)
  have e2 : ∀ d : Nat, d < 5 → upd f k v (12 + d) = f (12 + d) := fun d hd => up_n (by omega)
  refine ⟨by rw [up_n (by omega)]; exact i0, fun j hj => by rw [up_n (by omega)]; exact i1 j hj, fun j hj => ?_, fun j hj hq => by rw [e1 j hj]; exact i3 j hj hq, fun i j hi hj => by rw [e1 i hi, e1 j hj]; exact i4 i j hi hj, fun j hj => ?_, fun d hd => by rw [e2 d hd]; exact i6 d hd⟩
  · rw [e1 j hj]
    rcases i2 j hj with q | ⟨d, h1, h2, h3⟩
    · exact Or.inl q
    · exact Or.inr ⟨d, h1, h2, by rw [e2 d (by omega)]; exact h3⟩
  · by_cases q : k = 8 + j
    · subst q
      rw [up_s]
      rcases hk with hk | hk
      · omega
      · exact Or.inl hk.2.2
    · rw [up_n (by omega)]; exact i5 j hj
theorem DI_hour (hI : DI hu ca b f) (hc5 : ca ≤ 5) (hb : b < 2147483647) : DI hu ca (b + 1) (upd f 22 (f 22 + 1)) := by
  obtain ⟨i0, i1, i2, i3, i4, i5, i6⟩ := hI
  have q := inc_le i0.1 i0.2 hb
  have e : ∀ j : Nat, j < 22 → upd f 22 (f 22 + 1) j = f j := fun j hj => up_n (by omega)
  refine ⟨by rw [up_s]; exact q, fun j hj => by rw [e j (by omega)]; exact i1 j hj, fun j hj => ?_, fun j hj hq => by rw [e _ (by omega)]; exact i3 j hj hq, fun i j hi hj => by rw [e _ (by omega), e _ (by omega)]; exact i4 i j hi hj, fun j hj => by rw [e _ (by omega)]; exact i5 j hj, fun d hd => by rw [e _ (by omega)]; exact i6 d hd⟩
  rw [e _ (by omega)]
  rcases i2 j hj with q | ⟨d, h1, h2, h3⟩
  · exact Or.inl q
  · exact Or.inr ⟨d, h1, h2, by rw [e _ (by omega)]; exact h3⟩
/-- the huts behind the end of a case -/
theorem end9 {t : Nat → Int32} {p : Int32} (hp : p ≠ -1) : ∀ k : Nat, k ≤ 4 → ∀ j : Nat, aX2_endCase_9 t p k j = if j < k ∧ t j = p then -1 else t j := by
  intro k
  induction k with
  | zero => intro _ j; rw [aX2_endCase_9, if_neg (by omega)]
  | succ k ih =>
    intro hk j
    have ih := ih (by omega)
    rw [aX2_endCase_9, kc k (by omega)]
    have ek : aX2_endCase_9 t p k k = t k := by rw [ih, if_neg (by omega)]
    rw [ek]
    by_cases q : t k = p
    · rw [if_pos q]
      by_cases e : j = k
      · subst e
        rw [up_s, if_pos ⟨by omega, q⟩]
      · rw [up_n e, ih]
        by_cases q2 : j < k ∧ t j = p
        · rw [if_pos q2, if_pos ⟨by omega, q2.2⟩]
        · rw [if_neg q2, if_neg (fun z => q2 ⟨by omega, z.2⟩)]
    · rw [if_neg q, ih]
      by_cases q2 : j < k ∧ t j = p
      · rw [if_pos q2, if_pos ⟨by omega, q2.2⟩]
      · rw [if_neg q2, if_neg (fun z => q2 ⟨by rcases Nat.lt_or_ge j k with h | h; exact h; exact absurd (by rw [show k = j by omega]; exact z.2) q, z.2⟩)]
theorem end1 {t : Nat → Int32} {p : Int32} (hp : p ≠ -1) {j : Nat} (hj : j < 4) : sX2_endCase_1 t p j = if t j = p then -1 else t j := by
  unfold sX2_endCase_1
  rw [end9 hp 4 (Nat.le_refl _)]
  by_cases q : t j = p
  · rw [if_pos ⟨hj, q⟩, if_pos q]
  · rw [if_neg (fun z => q z.2), if_neg q]
end EQ4
