def plW (wt : Nat → Bool) : Nat → Nat → Nat
  | 0, _ => 1
  | d + 1, c => (if wt c = true then 12 else 1) * plW wt d (c + 1)
def plD (wt : Nat → Bool) (k c : Nat) : Nat := (k / plW wt (4 - c) (c + 1)) % 12
/-- the end of the first c cases, begun as be says -/
def plE (wt : Nat → Bool) (ln be : Nat → Nat) : Nat → Nat
  | 0 => 0
  | c + 1 => if wt c = true then max (plE wt ln be c) (be c + ln c) else plE wt ln be c
/-- how many of the first c cases are in the water in the hour h -/
def plC (wt : Nat → Bool) (ln be : Nat → Nat) (h : Nat) : Nat → Nat
  | 0 => 0
  | c + 1 => plC wt ln be h c + (if wt c = true ∧ be c ≤ h ∧ h < be c + ln c then 1 else 0)
def plS (wt : Nat → Bool) (ln : Nat → Nat) : Nat → Nat
  | 0 => 0
  | c + 1 => plS wt ln c + (if wt c = true then ln c else 0)
def plOk (wt : Nat → Bool) (op : Nat → Nat → Bool) (be : Nat → Nat) (c : Nat) : Prop := ∀ j : Nat, j < c → wt j = true → op j (be j) = true
def plV (wt : Nat → Bool) (ln : Nat → Nat) (op : Nat → Nat → Bool) (m : Nat) (be : Nat → Nat) : Nat := if (∀ j : Nat, j < 5 → wt j = true → op j (be j) = true) ∧ (∀ h : Nat, h < plE wt ln be 5 → plC wt ln be h 5 ≤ m) then plE wt ln be 5 else 100
def plF (V : Nat → Nat) : Nat → Nat → Nat × Nat → Nat × Nat
  | 0, _, z => z
  | n + 1, lo, z => plF V n (lo + 1) (if V lo < z.1 then (V lo, lo) else z)
def plT (f : Nat → Nat) : Nat → Nat
  | 0 => 0
  | n + 1 => plT f n + f n
theorem plF_add {V : Nat → Nat} {b : Nat} : ∀ (a lo : Nat) (z : Nat × Nat), plF V (a + b) lo z = plF V b (lo + a) (plF V a lo z) := by
  intro a
  induction a with
  | zero => intro lo z; rw [Nat.zero_add]; rfl
  | succ a ih =>
    intro lo z
    rw [Nat.succ_add]
    show plF V (a + b) (lo + 1) _ = _
    rw [ih, Nat.add_assoc, Nat.add_comm 1 a]
    rfl
theorem plF_id {V : Nat → Nat} : ∀ (n lo : Nat) (z : Nat × Nat), (∀ k : Nat, lo ≤ k → k < lo + n → z.1 ≤ V k) → plF V n lo z = z := by
  intro n
  induction n with
  | zero => intro lo z _; rfl
  | succ n ih =>
    intro lo z h
    have h0 := h lo (Nat.le_refl _) (by omega)
    show plF V n (lo + 1) (if V lo < z.1 then (V lo, lo) else z) = z
    rw [if_neg (Nat.not_lt.mpr h0)]
    exact ih (lo + 1) z (fun k h1 h2 => h k (by omega) (by omega))
theorem plT_add {f g : Nat → Nat} : ∀ n : Nat, plT (fun h => f h + g h) n = plT f n + plT g n := by
  intro n
  induction n with
  | zero => rfl
  | succ n ih => show plT _ n + (f n + g n) = (plT f n + f n) + (plT g n + g n); omega
theorem plT_le {f : Nat → Nat} {m : Nat} : ∀ n : Nat, (∀ h : Nat, h < n → f h ≤ m) → plT f n ≤ m * n := by
  intro n
  induction n with
  | zero => intro _; exact Nat.zero_le _
  | succ n ih =>
    intro h
    have := ih (fun j hj => h j (by omega))
    have := h n (by omega)
    show plT f n + f n ≤ m * (n + 1)
    rw [Nat.mul_succ]
    omega
theorem plT_int {a l : Nat} : ∀ n : Nat, plT (fun h => if a ≤ h ∧ h < a + l then 1 else 0) n = if n ≤ a then 0 else if n ≤ a + l then n - a else l := by
  intro n
  induction n with
  | zero => rw [if_pos (Nat.zero_le _)]; rfl
  | succ n ih =>
    show plT _ n + (if a ≤ n ∧ n < a + l then 1 else 0) = _
    rw [ih]
    repeat' split
    all_goals omega
theorem plT_0 : ∀ n : Nat, plT (fun _ => 0) n = 0 := by
  intro n
  induction n with
  | zero => rfl
  | succ n ih => exact ih
theorem plC_sum {wt : Nat → Bool} {ln be : Nat → Nat} {n : Nat} : ∀ c : Nat, plE wt ln be c ≤ n → plT (fun h => plC wt ln be h c) n = plS wt ln c := by
  intro c
  induction c with
  | zero => intro _; exact plT_0 n
  | succ c ih =>
    intro h
    show plT (fun h => plC wt ln be h c + (if wt c = true ∧ be c ≤ h ∧ h < be c + ln c then 1 else 0)) n = plS wt ln c + (if wt c = true then ln c else 0)
    have h2 : plE wt ln be (c + 1) = if wt c = true then max (plE wt ln be c) (be c + ln c) else plE wt ln be c := rfl
    rw [plT_add]
    by_cases w : wt c = true
    · rw [if_pos w] at h2 ⊢
      rw [ih (by omega)]
      have e : (fun h => if wt c = true ∧ be c ≤ h ∧ h < be c + ln c then 1 else 0) = (fun h => if be c ≤ h ∧ h < be c + ln c then 1 else 0) := by
        funext h; simp only [w, true_and]
      rw [e, plT_int]
      repeat' split
      all_goals omega
    · rw [if_neg w] at h2 ⊢
      have e : (fun h => if wt c = true ∧ be c ≤ h ∧ h < be c + ln c then 1 else 0) = (fun _ => 0) := by
        funext h; rw [if_neg (fun q => w q.1)]
      rw [ih (by omega), e, plT_0]
theorem plE_le {wt : Nat → Bool} {ln be : Nat → Nat} {op : Nat → Nat → Bool} (hop : ∀ c b : Nat, wt c = true → op c b = true → b + ln c ≤ 12) : ∀ c : Nat, plOk wt op be c → plE wt ln be c ≤ 12 := by
  intro c
  induction c with
  | zero => intro _; exact Nat.zero_le _
  | succ c ih =>
    intro h
    have i := ih (fun j hj => h j (by omega))
    have h2 : plE wt ln be (c + 1) = if wt c = true then max (plE wt ln be c) (be c + ln c) else plE wt ln be c := rfl
    rw [h2]
    by_cases w : wt c = true
    · rw [if_pos w]
      have := hop c (be c) w (h c (by omega) w)
      omega
    · rw [if_neg w]; exact i
theorem plE_mono {wt : Nat → Bool} {ln be : Nat → Nat} {c : Nat} : ∀ d : Nat, plE wt ln be c ≤ plE wt ln be (c + d) := by
  intro d
  induction d with
  | zero => exact Nat.le_refl _
  | succ d ih =>
    have h2 : plE wt ln be (c + (d + 1)) = if wt (c + d) = true then max (plE wt ln be (c + d)) (be (c + d) + ln (c + d)) else plE wt ln be (c + d) := rfl
    rw [h2]
    split <;> omega
theorem plE_ge {wt : Nat → Bool} {ln be : Nat → Nat} {c n : Nat} (hc : c < n) (w : wt c = true) : be c + ln c ≤ plE wt ln be n := by
  have h := plE_mono (wt := wt) (ln := ln) (be := be) (c := c + 1) (n - (c + 1))
  rw [show c + 1 + (n - (c + 1)) = n by omega] at h
  have h2 : plE wt ln be (c + 1) = max (plE wt ln be c) (be c + ln c) := if_pos w
  omega
theorem plC_mono {wt : Nat → Bool} {ln be : Nat → Nat} {h c : Nat} : ∀ d : Nat, plC wt ln be h c ≤ plC wt ln be h (c + d) := by
  intro d
  induction d with
  | zero => exact Nat.le_refl _
  | succ d ih => exact Nat.le_trans ih (Nat.le_add_right _ _)
theorem plE_congr {wt : Nat → Bool} {ln be b2 : Nat → Nat} : ∀ c : Nat, (∀ j : Nat, j < c → wt j = true → be j = b2 j) → plE wt ln be c = plE wt ln b2 c := by
  intro c
  induction c with
  | zero => intro _; rfl
  | succ c ih =>
    intro h
    have i := ih (fun j hj => h j (by omega))
    show (if wt c = true then max (plE wt ln be c) (be c + ln c) else plE wt ln be c) = (if wt c = true then max (plE wt ln b2 c) (b2 c + ln c) else plE wt ln b2 c)
    by_cases w : wt c = true
    · rw [i, h c (by omega) w]
    · rw [if_neg w, if_neg w, i]
theorem plC_congr {wt : Nat → Bool} {ln be b2 : Nat → Nat} {x : Nat} : ∀ c : Nat, (∀ j : Nat, j < c → wt j = true → be j = b2 j) → plC wt ln be x c = plC wt ln b2 x c := by
  intro c
  induction c with
  | zero => intro _; rfl
  | succ c ih =>
    intro h
    have i := ih (fun j hj => h j (by omega))
    show plC wt ln be x c + (if wt c = true ∧ be c ≤ x ∧ x < be c + ln c then 1 else 0) = plC wt ln b2 x c + (if wt c = true ∧ b2 c ≤ x ∧ x < b2 c + ln c then 1 else 0)
    by_cases w : wt c = true
    · rw [i, h c (by omega) w]
    · rw [if_neg (fun q => w q.1), if_neg (fun q => w q.1), i]
/-- a way's value: too far, or its end, and that no sooner than any bound that holds of every way -/
theorem plV_cases {wt : Nat → Bool} {ln be : Nat → Nat} {op : Nat → Nat → Bool} {m a7 : Nat} (hop : ∀ c b : Nat, wt c = true → op c b = true → b + ln c ≤ 12) (hal : ∀ be : Nat → Nat, plOk wt op be 5 → plS wt ln 5 ≤ m * plE wt ln be 5 → a7 ≤ plE wt ln be 5) : plV wt ln op m be = 100 ∨ (plV wt ln op m be = plE wt ln be 5 ∧ plE wt ln be 5 ≤ 12 ∧ a7 ≤ plE wt ln be 5) := by
  unfold plV
  split
  · rename_i h
    refine Or.inr ⟨rfl, plE_le hop 5 h.1, hal be h.1 ?_⟩
    rw [← plC_sum 5 (Nat.le_refl _)]
    exact plT_le _ h.2
  · exact Or.inl rfl
theorem plW_pos {wt : Nat → Bool} : ∀ d c : Nat, 0 < plW wt d c := by
  intro d
  induction d with
  | zero => intro c; exact Nat.one_pos
  | succ d ih =>
    intro c
    have := ih (c + 1)
    show 0 < (if wt c = true then 12 else 1) * plW wt d (c + 1)
    split <;> omega
