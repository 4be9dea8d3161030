def PSH (b0 b2 b3 b4 : Nat → Int32) (b6 b8 : Int32) (g3 : Nat → Int32) (g5 : Int32) (wt : Nat → Bool) (ln : Nat → Nat) (op : Nat → Nat → Bool) (s : Nat → Nat) : Prop :=
  ∀ k : Nat, k < 5 → (wt k = true ↔ (¬ rX0_hasCase b8 (nI k) = 0 ∧ g3 k = 0)) ∧ (wt k = true → (b3 k = nI (ln k) ∧ 1 ≤ ln k ∧ ln k ≤ 4) ∧ (s k < 4096 ∧ rX0_hoursOpen b0 b2 b4 b6 (nI k) g5 = nI (s k)) ∧ ∀ b : Nat, op k b = true ↔ (b < 12 ∧ plM (nI (s k)) (nI (ln k)) b = 0))
def PSQ (wt : Nat → Bool) (ln : Nat → Nat) (op : Nat → Nat → Bool) (s : Nat → Nat) (k : Nat) (S : Int32 × (Nat → Int32) × (Nat → Int32) × (Nat → Int32) × Int32) : Prop :=
  S.1 = nI (plS wt ln k) ∧ plS wt ln k ≤ 4 * k ∧ (∀ c : Nat, c < k → (S.2.1 c = 0 ↔ ¬ wt c = true)) ∧ (∀ c : Nat, c < k → wt c = true → S.2.2.1 c = nI (ln c) ∧ S.2.2.2.1 c = aX7_lookAtAlone_6 (nI (s c)) (ln c - 1)) ∧ ∃ e : Nat, S.2.2.2.2 = nI e ∧ e < 100 ∧ ∀ be : Nat → Nat, plOk wt op be k → e ≤ plE wt ln be k
section PLS
variable {a0 a1 a2 b0 b2 b3 b4 g3 : Nat → Int32} {b6 b8 g5 : Int32} {wt : Nat → Bool} {ln s : Nat → Nat} {op : Nat → Nat → Bool}
theorem la1 {f : Nat → Int32} {k : Nat} {x y : Int32} (hk : k < 5) : sX7_lookAtAlone_1 f (nI k) x y = upd f k x := by
  unfold sX7_lookAtAlone_1
  rw [kc k (by omega)]
  split <;> rfl
theorem la2 {f : Nat → Int32} {k l : Nat} {y : Int32} (hk : k < 5) (hl : l ≤ 4) : sX7_lookAtAlone_2 f (nI k) (nI l) y = upd f k (aX7_lookAtAlone_6 y (l - 1)) := by
  unfold sX7_lookAtAlone_2
  rw [kc k (by omega), kc l (by omega)]
  split <;> rfl
theorem look_no {k : Nat} {T S : Int32 × (Nat → Int32) × (Nat → Int32) × (Nat → Int32) × Int32} (I : PSQ wt ln op s k T) (w : ¬ wt k = true) (hS : S = (T.1, upd T.2.1 k (0 : Int32), T.2.2.1, T.2.2.2.1, T.2.2.2.2)) : PSQ wt ln op s (k + 1) S := by
  obtain ⟨I1, I2, I3, I4, e, I5, I6, I7⟩ := I
  have s1 : plS wt ln (k + 1) = plS wt ln k := by
    show plS wt ln k + (if wt k = true then ln k else 0) = _
    rw [if_neg w]; rfl
  have e1 : ∀ be : Nat → Nat, plE wt ln be (k + 1) = plE wt ln be k := fun be => if_neg w
  have ck : ∀ c : Nat, c < k + 1 → wt c = true → c < k := fun c hc wc => by
    have : c ≠ k := fun y => w (y ▸ wc)
    omega
  subst hS
  refine ⟨by rw [s1]; exact I1, by rw [s1]; omega, fun c hc => ?_, fun c hc wc => I4 c (ck c hc wc) wc, e, I5, I6, fun be h => by rw [e1]; exact I7 be (fun j hj => h j (by omega))⟩
  show upd T.2.1 k (0 : Int32) c = 0 ↔ _
  rw [upd_if]
  by_cases y : c = k
  · rw [if_pos y, y]; exact ⟨fun _ => w, fun _ => rfl⟩
  · rw [if_neg y]; exact I3 c (by omega)
theorem look_yes {k : Nat} {T S : Int32 × (Nat → Int32) × (Nat → Int32) × (Nat → Int32) × Int32} (I : PSQ wt ln op s k T) (hk : k < 5) (w : wt k = true) (h1 : 1 ≤ ln k) (h4 : ln k ≤ 4) (hs : s k < 4096) (ho : ∀ b : Nat, op k b = true ↔ (b < 12 ∧ plM (nI (s k)) (nI (ln k)) b = 0)) (hS : S = (T.1 + nI (ln k), upd T.2.1 k (1 : Int32), upd T.2.2.1 k (nI (ln k)), upd T.2.2.2.1 k (aX7_lookAtAlone_6 (nI (s k)) (ln k - 1)), sX7_lookAtAlone_7 T.2.2.2.2 (nI (ln k)) (nI (s k)))) : PSQ wt ln op s (k + 1) S := by
  obtain ⟨I1, I2, I3, I4, e, I5, I6, I7⟩ := I
  have s1 : plS wt ln (k + 1) = plS wt ln k + ln k := by
    show plS wt ln k + (if wt k = true then ln k else 0) = _
    rw [if_pos w]
  have e1 : ∀ be : Nat → Nat, plE wt ln be (k + 1) = max (plE wt ln be k) (be k + ln k) := fun be => if_pos w
  obtain ⟨f, f1, f2, f3⟩ := look7 hs h1 h4 I6
  subst hS
  refine ⟨?_, by rw [s1]; omega, fun c hc => ?_, fun c hc wc => ?_, f, ?_, f2, fun be h => ?_⟩
  · show T.1 + nI (ln k) = _
    rw [I1, nI_add, s1]
  · show upd T.2.1 k (1 : Int32) c = 0 ↔ _
    rw [upd_if]
    by_cases y : c = k
    · rw [if_pos y, y]; exact ⟨fun h => absurd h (by decide), fun h => absurd w h⟩
    · rw [if_neg y]; exact I3 c (by omega)
  · show upd T.2.2.1 k (nI (ln k)) c = _ ∧ upd T.2.2.2.1 k (aX7_lookAtAlone_6 (nI (s k)) (ln k - 1)) c = _
    rw [upd_if, upd_if]
    by_cases y : c = k
    · rw [if_pos y, if_pos y, y]; exact ⟨rfl, rfl⟩
    · rw [if_neg y, if_neg y]; exact I4 c (by omega) wc
  · show sX7_lookAtAlone_7 T.2.2.2.2 (nI (ln k)) (nI (s k)) = _
    rw [I5]; exact f1
  · have o := (ho (be k)).mp (h k (by omega) w)
    have g := f3 (be k) o.1 o.2
    have d := I7 be (fun j hj => h j (by omega))
    rw [e1]
    omega
theorem look_all (H : PSH b0 b2 b3 b4 b6 b8 g3 g5 wt ln op s) : ∀ k : Nat, k ≤ 5 → PSQ wt ln op s k (aX7_search_46 a0 a1 a2 b0 b2 b3 b4 b6 b8 g3 g5 k) := by
  intro k
  induction k with
  | zero => intro _; exact ⟨rfl, Nat.le_refl _, fun c hc => absurd hc (Nat.not_lt_zero _), fun c hc => absurd hc (Nat.not_lt_zero _), 0, rfl, by decide, fun be _ => Nat.zero_le _⟩
  | succ k ih =>
    intro hk
    have I := ih (by omega)
    have h := H k (by omega)
    obtain ⟨T, hT⟩ : ∃ T, T = aX7_search_46 a0 a1 a2 b0 b2 b3 b4 b6 b8 g3 g5 k := ⟨_, rfl⟩
    rw [← hT] at I
    rw [aX7_search_46, ← hT, kc k (by omega)]
    by_cases w : wt k = true
    · have q := h.1.mp w
      have r := h.2 w
      rw [if_neg q.1, if_pos q.2, r.1.1, r.2.1.2, la1 (by omega), la2 (by omega) r.1.2.2]
      exact look_yes I (by omega) w r.1.2.1 r.1.2.2 r.2.1.1 r.2.2 rfl
    · by_cases q : rX0_hasCase b8 (nI k) = 0
      · rw [if_pos q]
        exact look_no I w rfl
      · rw [if_neg q, if_neg (fun y => w (h.1.mpr ⟨q, y⟩))]
        exact look_no I w rfl
/-- what the class's planner knows once it has looked at each case alone -/
theorem PLH_of (H : PSH b0 b2 b3 b4 b6 b8 g3 g5 wt ln op s) (w5 : ∀ k : Nat, wt k = true → k < 5) {m : Nat} (m1 : 1 ≤ m) (m4 : m ≤ 4) : ∃ s7 : Nat, PLH (aX7_search_46 a0 a1 a2 b0 b2 b3 b4 b6 b8 g3 g5 5).2.1 (aX7_search_46 a0 a1 a2 b0 b2 b3 b4 b6 b8 g3 g5 5).2.2.1 (aX7_search_46 a0 a1 a2 b0 b2 b3 b4 b6 b8 g3 g5 5).2.2.2.1 (nI m) (if (aX7_search_46 a0 a1 a2 b0 b2 b3 b4 b6 b8 g3 g5 5).2.2.2.2 < ((((aX7_search_46 a0 a1 a2 b0 b2 b3 b4 b6 b8 g3 g5 5).1 + nI m) - (1 : Int32)) / nI m) then ((((aX7_search_46 a0 a1 a2 b0 b2 b3 b4 b6 b8 g3 g5 5).1 + nI m) - (1 : Int32)) / nI m) else (aX7_search_46 a0 a1 a2 b0 b2 b3 b4 b6 b8 g3 g5 5).2.2.2.2) wt ln op m s7 := by
  have I := look_all (a0 := a0) (a1 := a1) (a2 := a2) H 5 (Nat.le_refl _)
  obtain ⟨T, hT⟩ : ∃ T, T = aX7_search_46 a0 a1 a2 b0 b2 b3 b4 b6 b8 g3 g5 5 := ⟨_, rfl⟩
  rw [← hT] at I ⊢
  obtain ⟨I1, I2, I3, I4, e, I5, I6, I7⟩ := I
  have dv : (T.1 + nI m - (1 : Int32)) / nI m = nI ((plS wt ln 5 + m - 1) / m) := by
    rw [I1, nI_add, show plS wt ln 5 + m = (plS wt ln 5 + m - 1) + 1 by omega, n_p]
    exact pk_div (by omega) (by omega) (by omega)
  have d24 : (plS wt ln 5 + m - 1) / m < 100 := Nat.lt_of_le_of_lt (Nat.div_le_self _ _) (by omega)
  have hd : ∀ E : Nat, plS wt ln 5 ≤ m * E → (plS wt ln 5 + m - 1) / m ≤ E := fun E h => by
    obtain rfl | rfl | rfl | rfl : m = 1 ∨ m = 2 ∨ m = 3 ∨ m = 4 := by omega
    all_goals omega
  have op1 : ∀ c b : Nat, wt c = true → op c b = true → b < 12 ∧ plM (nI (s c)) (nI (ln c)) b = 0 := fun c b wc o => (((H c (w5 c wc)).2 wc).2.2 b).mp o
  have bt : ∀ c b : Nat, wt c = true → b < 12 → _ := fun c b wc hb => bits2 (n := s c) (l := ln c) (b := b) ((H c (w5 c wc)).2 wc).2.1.1 ((H c (w5 c wc)).2 wc).1.2.1 ((H c (w5 c wc)).2 wc).1.2.2 hb
  rw [dv, I5]
  have parts : ∀ s7 : Nat, s7 < 100 → (∀ be : Nat → Nat, plOk wt op be 5 → plS wt ln 5 ≤ m * plE wt ln be 5 → s7 ≤ plE wt ln be 5) → PLH T.2.1 T.2.2.1 T.2.2.2.1 (nI m) (nI s7) wt ln op m s7 := fun s7 h1 h2 => by
    refine ⟨I3, fun c hc wc => ⟨(I4 c hc wc).1, ((H c hc).2 wc).1.2⟩, fun c b hc wc hb => ?_, fun c b wc o => ?_, ⟨rfl, m4⟩, ⟨rfl, h1⟩, h2⟩
    · rw [(I4 c hc wc).2, (bt c b wc hb).1]
      exact ⟨fun z o => z (op1 c b wc o).2, fun z o => z ((((H c hc).2 wc).2.2 b).mpr ⟨hb, o⟩)⟩
    · have z := op1 c b wc o
      exact ((bt c b wc z.1).2 z.2).1
  by_cases y : nI e < nI ((plS wt ln 5 + m - 1) / m)
  · rw [if_pos y]
    exact ⟨_, parts _ d24 (fun be _ h => hd _ h)⟩
  · rw [if_neg y]
    exact ⟨_, parts _ I6 (fun be o _ => I7 be o)⟩
end PLS
