section EQ6
variable {dy0 dy1 dy2 dy3 dy4 sh0 sh1 sh2 sh3 sh4 sh5 a1 a3 a5 a6 a7 a8 a9 f : Nat → Int32} {dy5 sh6 sh7 sh8 a0 a2 a4 : Int32} {b : Int} {hu ca : Nat}
theorem canB (hc5 : ca ≤ 5) (hD : RD dy0 dy1 dy2 dy3 dy4 dy5 f) (hI : DI hu ca b f) {c h : Int32} (c0 : 0 ≤ c) (c5 : c.toNatClampNeg < 5) (h0 : 0 ≤ h) (h4 : h.toNatClampNeg < 4) : rX10_canBring f c h = 0 ↔ rX2_canEnter dy0 dy1 dy3 c h = 0 := by
  have e : rX10_canBring f c h = rX2_canEnter dy0 dy1 dy3 c h := by
    unfold rX10_canBring rX2_canEnter
    rw [show ((12 : Int32) + c).toNatClampNeg = 12 + c.toNatClampNeg from ixL 12 c0 (by omega) (by omega), show ((4 : Int32) + h).toNatClampNeg = 4 + h.toNatClampNeg from ixL 4 h0 (by omega) (by omega), hD.2.2.2.1 _ c5, hD.2.1 _ h4, hD.1 _ h4]
    rcases hI.2.2.1 _ h4 with q | ⟨d, h1, h2, -⟩
    · rw [q]
      rw [if_neg (show ¬ (0 : Int32) ≤ -1 by decide), if_pos rfl]
    · rw [h2, if_pos (nI_pos' (by omega)), if_neg (nI_m1 (by omega))]
  rw [e]
theorem bringNow_eq {c h : Int32} (c0 : 0 ≤ c) (c5 : c.toNatClampNeg < 5) (h0 : 0 ≤ h) (h4 : h.toNatClampNeg < 4) : sX10_bringNow_9 f c h = upd (upd f (12 + c.toNatClampNeg) 1) (4 + h.toNatClampNeg) (nI (c.toNatClampNeg)) := by
  unfold sX10_bringNow_9
  rw [show ((12 : Int32) + c).toNatClampNeg = 12 + c.toNatClampNeg from ixL 12 c0 (by omega) (by omega), show ((4 : Int32) + h).toNatClampNeg = 4 + h.toNatClampNeg from ixL 4 h0 (by omega) (by omega), ← cl_nI c c0]
theorem RD_bring (hD : RD dy0 dy1 dy2 dy3 dy4 dy5 f) {c h : Int32} (c0 : 0 ≤ c) (c5 : c.toNatClampNeg < 5) (h0 : 0 ≤ h) (h4 : h.toNatClampNeg < 4) : RD dy0 (sX2_enter_1 dy1 c h) dy2 (sX2_enter_3 dy3 c) dy4 dy5 (sX10_bringNow_9 f c h) := by
  rw [bringNow_eq c0 c5 h0 h4]
  unfold sX2_enter_1 sX2_enter_3
  have := RD_1 (RD_3 hD c5 1) h4 (nI (c.toNatClampNeg))
  rw [← cl_nI c c0] at this ⊢
  exact this
theorem canB_0 {c h : Int32} (hq : ¬ rX10_canBring f c h = 0) (c0 : 0 ≤ c) (c5 : c.toNatClampNeg < 5) : f (12 + c.toNatClampNeg) = 0 := by
  unfold rX10_canBring at hq
  rw [show ((12 : Int32) + c).toNatClampNeg = 12 + c.toNatClampNeg from ixL 12 c0 (by omega) (by omega)] at hq
  exact Classical.byContradiction fun q => hq (by rw [if_neg q])
theorem e_bring {pa0 a27 : Nat → Int32} {pa1 pa2 a26 p0 p1 : Int32} (hB : RB sh0 sh1 sh2 sh3 sh4 sh5 sh6 sh7 sh8 a0 a1 a2 a3 a4 a5 a6 a7 a8) (hD : RD dy0 dy1 dy2 dy3 dy4 dy5 a9) (hI : DI (a2.toNatClampNeg) (a4.toNatClampNeg) 9060 a9) (hP : RP (a2.toNatClampNeg) (a4.toNatClampNeg) pa0 pa1 pa2 a26 a27) : rX9_bring dy0 dy1 dy3 sh7 sh8 p0 p1 = rX10_bring a2 a4 a9 p0 p1 ∧ RD dy0 (sX9_bring_o1_1 dy0 dy1 dy3 sh7 sh8 p0 p1) dy2 (sX9_bring_o1_3 dy0 dy1 dy3 sh7 sh8 p0 p1) dy4 dy5 (sX10_bring_9 a2 a4 a9 p0 p1) ∧ DI (a2.toNatClampNeg) (a4.toNatClampNeg) 9060 (sX10_bring_9 a2 a4 a9 p0 p1) ∧ RP (a2.toNatClampNeg) (a4.toNatClampNeg) (sX9_bring_o2_0 dy0 dy1 dy2 dy3 dy4 dy5 pa0 pa1 sh7 sh8 p0 p1) (sX9_bring_o2_1 dy0 dy1 dy3 pa1 sh7 sh8 p0 p1) (sX9_bring_o2_2 dy0 dy1 dy3 pa2 sh7 sh8 p0 p1) (sX10_bring_26 a2 a4 a9 a26 p0 p1) (sX10_bring_27 a2 a4 a9 a26 a27 p0 p1) := by
  obtain ⟨⟨rfl, rfl, rfl⟩, -, ⟨h0, h4⟩, ⟨c0, c5⟩, -, -, -, -, -⟩ := hB
  have hc5 := clampLe (n := 5) (b := 5) rfl c0 c5
  have hu4 := clampLe (n := 4) (b := 4) rfl h0 h4
  unfold rX9_bring rX10_bring sX9_bring_o1_1 sX9_bring_o1_3 sX10_bring_9 sX9_bring_o2_0 sX9_bring_o2_1 sX9_bring_o2_2 sX10_bring_26 sX10_bring_27
  simp only [case_iff c0 c5, hut_iff h0 h4]
  by_cases q : rX0_hasCase sh8 p0 = 0
  · simp only [if_pos q]
    exact ⟨trivial, hD, hI, hP⟩
  · simp only [if_neg q]
    have k := case_ok c5 q
    by_cases q2 : rX0_hasHut sh7 p1 = 0
    · simp only [if_pos q2]
      exact ⟨trivial, hD, hI, hP⟩
    · simp only [if_neg q2]
      have k2 := hut_ok h4 q2
      have cb := canB hc5 hD hI k.1 k.2.2 k2.1 k2.2.2
      simp only [cb]
      by_cases q3 : rX2_canEnter dy0 dy1 dy3 p0 p1 = 0
      · simp only [if_pos q3]
        exact ⟨trivial, hD, hI, hP⟩
      · simp only [if_neg q3]
        have hD2 := RD_bring hD k.1 k.2.2 k2.1 k2.2.2
        refine ⟨set_e c0 c5 hD2.2.2.2.1, hD2, ?_, push_rp hc5 hD hI hP⟩
        rw [bringNow_eq k.1 k.2.2 k2.1 k2.2.2]
        exact DI_bring hc5 hu4 hI k.2.1 k2.2.1 (canB_0 (fun e => q3 (cb.mp e)) k.1 k.2.2)
theorem sm (x : Int32) {n : Int32} {N : Nat} (hn : n.toInt = N) (h0 : 0 ≤ x) (h1 : x ≤ n) : 0 ≤ x.toInt ∧ x.toInt ≤ N := by
  have a := Int32.le_iff_toInt_le.mp h0
  have c := Int32.le_iff_toInt_le.mp h1
  rw [hn] at c
  exact ⟨a, c⟩
theorem subT {x y : Int32} (hx : 0 ≤ x.toInt ∧ x.toInt ≤ 100) (hy : 0 ≤ y.toInt ∧ y.toInt ≤ 100) : (x - y).toInt = x.toInt - y.toInt := by
  rw [Int32.toInt_sub]
  apply Int.bmod_eq_of_le <;> omega
theorem addT {x y : Int32} (hx : 0 ≤ x.toInt ∧ x.toInt ≤ 100) (hy : 0 ≤ y.toInt ∧ y.toInt ≤ 100) : (x + y).toInt = x.toInt + y.toInt := by
  rw [Int32.toInt_add]
  apply Int.bmod_eq_of_le <;> omega
theorem absd {x y p : Int32} (x0 : 0 ≤ x) (x9 : x ≤ 9) (y0 : 0 ≤ y) (y9 : y ≤ 9) (p0 : 1 ≤ p) (p9 : p ≤ 9) : p < (if 0 ≤ x - y then x - y else 0 - (x - y)) ↔ ¬ (y - p ≤ x ∧ x ≤ y + p) := by
  have hx := sm x (n := 9) (N := 9) rfl x0 x9
  have hy := sm y (n := 9) (N := 9) rfl y0 y9
  have hp := sm p (n := 9) (N := 9) rfl (Int32.le_trans (by decide) p0) p9
  have e1 := subT (x := x) (y := y) (by omega) (by omega)
  have e2 := subT (x := y) (y := p) (by omega) (by omega)
  have e3 := addT (x := y) (y := p) (by omega) (by omega)
  have e4 : (0 - (x - y)).toInt = y.toInt - x.toInt := by
    rw [Int32.toInt_sub, e1]
    have e0 : (0 : Int32).toInt = 0 := rfl
    rw [e0, show (0 : Int) - (x.toInt - y.toInt) = y.toInt - x.toInt by omega]
    apply Int.bmod_eq_of_le <;> omega
  have e0 : (0 : Int32).toInt = 0 := rfl
  rw [Int32.le_iff_toInt_le (x := y - p), Int32.le_iff_toInt_le (y := y + p), e2, e3]
  split
  · rename_i q
    have q := Int32.le_iff_toInt_le.mp q
    rw [Int32.lt_iff_toInt_lt, e1]
    omega
  · rename_i q
    have q := Int32.lt_iff_toInt_lt.mp (Int32.not_le.mp q)
    rw [Int32.lt_iff_toInt_lt, e4]
    omega
theorem canD (hD : RD dy0 dy1 dy2 dy3 dy4 dy5 f) (hI : DI hu ca b f) {h x pc : Int32} (h0 : 0 ≤ h) (h4 : h.toNatClampNeg < 4) (x0 : 0 ≤ x) (x9 : x ≤ 9) (hp : pc = a3 (h.toNatClampNeg)) (p1 : 1 ≤ pc) (p9 : pc ≤ 9) : rX10_canDraw a3 f h x = 0 ↔ rX2_canMove dy0 dy2 h x pc = 0 := by
  have e : rX10_canDraw a3 f h x = rX2_canMove dy0 dy2 h x pc := by
    unfold rX10_canDraw rX2_canMove
    rw [show ((8 : Int32) + h).toNatClampNeg = 8 + h.toNatClampNeg from ixL 8 h0 (by omega) (by omega), hD.2.2.1 _ h4, hD.1 _ h4, ← hp]
    have hc := hI.2.1 _ h4
    generalize f (h.toNatClampNeg) = y at hc ⊢
    split
    · split
      · rfl
      · have hin := in32 x (y - pc) (y + pc)
        by_cases q : rX10_in x.toInt64 (y - pc).toInt64 (y + pc).toInt64 = 0
        · rw [if_pos q]
          rw [if_pos ((absd x0 x9 hc.1 hc.2 p1 p9).mpr (hin.mp q))]
        · rw [if_neg q]
          rw [if_neg (fun z => q (hin.mpr ((absd x0 x9 hc.1 hc.2 p1 p9).mp z)))]
    · rfl
  rw [e]
theorem drawNow_eq {h x : Int32} (h0 : 0 ≤ h) (h4 : h.toNatClampNeg < 4) : sX10_drawNow_9 f h x = upd (upd f (h.toNatClampNeg) x) (8 + h.toNatClampNeg) 1 := by
  unfold sX10_drawNow_9
  rw [show ((8 : Int32) + h).toNatClampNeg = 8 + h.toNatClampNeg from ixL 8 h0 (by omega) (by omega)]
theorem RD_draw (hD : RD dy0 dy1 dy2 dy3 dy4 dy5 f) {h x : Int32} (h0 : 0 ≤ h) (h4 : h.toNatClampNeg < 4) : RD (sX2_move_0 dy0 h x) dy1 (sX2_move_2 dy2 h) dy3 dy4 dy5 (sX10_drawNow_9 f h x) := by
  rw [drawNow_eq h0 h4]
  exact RD_2 (RD_0 hD h4 x) h4 1
theorem e_drawTo {pa0 a27 : Nat → Int32} {pa1 pa2 a26 p0 p1 : Int32} (hB : RB sh0 sh1 sh2 sh3 sh4 sh5 sh6 sh7 sh8 a0 a1 a2 a3 a4 a5 a6 a7 a8) (hD : RD dy0 dy1 dy2 dy3 dy4 dy5 a9) (hI : DI (a2.toNatClampNeg) (a4.toNatClampNeg) 9060 a9) (hP : RP (a2.toNatClampNeg) (a4.toNatClampNeg) pa0 pa1 pa2 a26 a27) : rX9_drawTo dy0 dy2 dy5 sh0 sh1 sh6 sh7 p0 p1 = rX10_drawTo a0 a1 a2 a3 a9 p0 p1 ∧ RD (sX9_drawTo_o1_0 dy0 dy2 sh1 sh7 p0 p1) dy1 (sX9_drawTo_o1_2 dy0 dy2 sh1 sh7 p0 p1) dy3 dy4 dy5 (sX10_drawTo_9 a2 a3 a9 p0 p1) ∧ DI (a2.toNatClampNeg) (a4.toNatClampNeg) 9060 (sX10_drawTo_9 a2 a3 a9 p0 p1) ∧ RP (a2.toNatClampNeg) (a4.toNatClampNeg) (sX9_drawTo_o2_0 dy0 dy1 dy2 dy3 dy4 dy5 pa0 pa1 sh1 sh7 p0 p1) (sX9_drawTo_o2_1 dy0 dy2 pa1 sh1 sh7 p0 p1) (sX9_drawTo_o2_2 dy0 dy2 pa2 sh1 sh7 p0 p1) (sX10_drawTo_26 a2 a3 a9 a26 p0 p1) (sX10_drawTo_27 a2 a3 a9 a26 a27 p0 p1) := by
  have hB' := hB
  obtain ⟨⟨e6, e7, e8⟩, -, ⟨h0, h4⟩, ⟨c0, c5⟩, th, -, -, hH, -⟩ := hB
  subst e7
  have hc5 := clampLe (n := 5) (b := 5) rfl c0 c5
  unfold rX9_drawTo rX10_drawTo sX9_drawTo_o1_0 sX9_drawTo_o1_2 sX10_drawTo_9 sX9_drawTo_o2_0 sX9_drawTo_o2_1 sX9_drawTo_o2_2 sX10_drawTo_26 sX10_drawTo_27
  simp only [hut_iff h0 h4, cell_iff]
  by_cases q : rX0_hasHut sh7 p0 = 0
  · simp only [if_pos q]
    exact ⟨trivial, hD, hI, hP⟩
  · simp only [if_neg q]
    have k := hut_ok h4 q
    by_cases q2 : rX9_isNoCell p1 = 0
    · simp only [if_pos q2, if_neg (not_not_intro q2)]
      have x := isNC q2
      have hh := hH _ k.2.1
      have cd := canD (a3 := a3) hD hI (h := p0) (x := p1) (pc := sh1 (p0.toNatClampNeg)) k.1 k.2.2 x.1 x.2 hh.1 (by rw [hh.1]; exact hh.2.1) (by rw [hh.1]; exact hh.2.2)
      simp only [cd]
      by_cases q3 : rX2_canMove dy0 dy2 p0 p1 (sh1 (p0.toNatClampNeg)) = 0
      · simp only [if_pos q3]
        exact ⟨trivial, hD, hI, hP⟩
      · simp only [if_neg q3]
        have hD2 := RD_draw (x := p1) hD k.1 k.2.2
        have hI2 : DI (sh7.toNatClampNeg) (a4.toNatClampNeg) 9060 (sX10_drawNow_9 a9 p0 p1) := by
          rw [drawNow_eq k.1 k.2.2]
          exact DI_draw hI hc5 k.2.2 x.1 x.2
        exact ⟨db_eq hB' hD2 hI2 (Int.le_refl _) (th (pos_of_k k.2.1)) (by decide) (by decide), hD2, hI2, push_rp hc5 hD hI hP⟩
    · simp only [if_neg q2, if_pos q2, not_false_eq_true, if_true]
      exact ⟨trivial, hD, hI, hP⟩
theorem set43 {c : Nat} (hc : c < 5) (hm : ∀ j : Nat, j < 4 → f (4 + j) = f (4 + j)) : ∀ k : Nat, k ≤ 4 → ∀ m : Nat, aX10_settle_43 f (nI c) k m = if 4 ≤ m ∧ m < 4 + k ∧ f m = nI c then -1 else upd f (12 + c) 3 m := by
  intro k
  induction k with
  | zero =>
    intro _ m
    rw [aX10_settle_43, if_neg (by omega), i12 c (by omega)]
  | succ k ih =>
    intro hk m
    have ih := ih (by omega)
    have i4 : ((4 : Int32) + nI k).toNatClampNeg = 4 + k := ixK 4 k (by omega)
    have ek : aX10_settle_43 f (nI c) k (4 + k) = f (4 + k) := by rw [ih, if_neg (by omega), up_n (by omega)]
    rw [aX10_settle_43, i4, ek]
    by_cases q : f (4 + k) = nI c
    · rw [if_pos q]
      by_cases e : m = 4 + k
      · subst e
        rw [up_s, if_pos ⟨by omega, by omega, q⟩]
      · rw [up_n e, ih]
        by_cases q2 : 4 ≤ m ∧ m < 4 + k ∧ f m = nI c
        · rw [if_pos q2, if_pos ⟨by omega, by omega, q2.2.2⟩]
        · rw [if_neg q2, if_neg (fun z => q2 ⟨by omega, by omega, z.2.2⟩)]
    · rw [if_neg q]
      by_cases e : m = 4 + k
      · subst e
        rw [up_s, if_neg (fun z => q z.2.2), up_n (by omega)]
      · rw [up_n e, ih]
        by_cases q2 : 4 ≤ m ∧ m < 4 + k ∧ f m = nI c
        · rw [if_pos q2, if_pos ⟨by omega, by omega, q2.2.2⟩]
        · rw [if_neg q2, if_neg (fun z => q2 ⟨by omega, by omega, z.2.2⟩)]
theorem e_settle {pa0 a27 : Nat → Int32} {pa1 pa2 a26 p0 : Int32} (hB : RB sh0 sh1 sh2 sh3 sh4 sh5 sh6 sh7 sh8 a0 a1 a2 a3 a4 a5 a6 a7 a8) (hD : RD dy0 dy1 dy2 dy3 dy4 dy5 a9) (hI : DI (a2.toNatClampNeg) (a4.toNatClampNeg) 9060 a9) (hP : RP (a2.toNatClampNeg) (a4.toNatClampNeg) pa0 pa1 pa2 a26 a27) : rX9_settle dy3 sh5 sh8 p0 = rX10_settle a4 a8 a9 p0 ∧ RD dy0 (sX9_settle_o1_1 dy1 dy3 sh8 p0) dy2 (sX9_settle_o1_3 dy3 sh8 p0) dy4 dy5 (sX10_settle_9 a2 a4 a9 p0) ∧ DI (a2.toNatClampNeg) (a4.toNatClampNeg) 9060 (sX10_settle_9 a2 a4 a9 p0) ∧ RP (a2.toNatClampNeg) (a4.toNatClampNeg) (sX9_settle_o2_0 dy0 dy1 dy2 dy3 dy4 dy5 pa0 pa1 sh8 p0) (sX9_settle_o2_1 dy3 pa1 sh8 p0) (sX9_settle_o2_2 dy3 pa2 sh8 p0) (sX10_settle_26 a4 a9 a26 p0) (sX10_settle_27 a4 a9 a26 a27 p0) := by
  obtain ⟨⟨rfl, rfl, rfl⟩, -, ⟨h0, h4⟩, ⟨c0, c5⟩, -, -, -, -, hC⟩ := hB
  have hc5 := clampLe (n := 5) (b := 5) rfl c0 c5
  have hu4 := clampLe (n := 4) (b := 4) rfl h0 h4
  unfold rX9_settle rX10_settle sX9_settle_o1_1 sX9_settle_o1_3 sX10_settle_9 sX9_settle_o2_0 sX9_settle_o2_1 sX9_settle_o2_2 sX10_settle_26 sX10_settle_27
  simp only [case_iff c0 c5]
  by_cases q : rX0_hasCase sh8 p0 = 0
  · simp only [if_pos q]
    exact ⟨trivial, hD, hI, hP⟩
  · simp only [if_neg q]
    have k := case_ok c5 q
    have i12 : ((12 : Int32) + p0).toNatClampNeg = 12 + p0.toNatClampNeg := ixL 12 k.1 (by omega) (by omega)
    have es : dy3 (p0.toNatClampNeg) = a9 (12 + p0.toNatClampNeg) := hD.2.2.2.1 _ k.2.2
    have hs := hI.2.2.2.2.2.2 _ k.2.2
    simp only [i12, es]
    have ep := cl_nI p0 k.1
    generalize hcc : p0.toNatClampNeg = c at *
    subst ep
    have hD2 : RD dy0 (sX2_endCase_1 dy1 (nI c)) dy2 (sX2_endCase_3 dy3 (nI c) 3) dy4 dy5 (aX10_settle_43 a9 (nI c) (sh7.toNatClampNeg)) := by
      have e1 : ∀ m : Nat, aX10_settle_43 a9 (nI c) (sh7.toNatClampNeg) m = if 4 ≤ m ∧ m < 4 + sh7.toNatClampNeg ∧ a9 m = nI c then -1 else upd a9 (12 + c) 3 m := set43 k.2.2 (fun _ _ => rfl) _ hu4
      have d := RD_3 hD k.2.2 3
      refine ⟨fun j hj => by rw [e1, if_neg (by omega)]; exact d.1 j hj, fun j hj => ?_, fun j hj => by rw [e1, if_neg (by omega)]; exact d.2.2.1 j hj, fun j hj => ?_, fun j hj => by rw [e1, if_neg (by omega)]; exact d.2.2.2.2.1 j hj, by rw [e1, if_neg (by omega)]; exact d.2.2.2.2.2⟩
      · rw [e1, end1 (nI_m1 (by omega)) hj, hD.2.1 j hj]
        by_cases z : a9 (4 + j) = nI c
        · have jl : j < sh7.toNatClampNeg := by
            rcases Nat.lt_or_ge j (sh7.toNatClampNeg) with w | w
            · exact w
            · have := hI.2.2.2.1 j hj w
              rw [z] at this
              exact absurd this (nI_m1 (by omega))
          rw [if_pos z, if_pos ⟨by omega, by omega, z⟩]
        · rw [if_neg z, if_neg (fun w => z w.2.2), up_n (by omega)]
      · rw [e1, if_neg (by omega), ← d.2.2.2.1 j hj]
        unfold sX2_endCase_3
        rw [hcc]
    have hI2 : DI (sh7.toNatClampNeg) (sh8.toNatClampNeg) 9060 (aX10_settle_43 a9 (nI c) (sh7.toNatClampNeg)) := by
      have e1 : ∀ m : Nat, aX10_settle_43 a9 (nI c) (sh7.toNatClampNeg) m = if 4 ≤ m ∧ m < 4 + sh7.toNatClampNeg ∧ a9 m = nI c then -1 else upd a9 (12 + c) 3 m := set43 k.2.2 (fun _ _ => rfl) _ hu4
      refine DI_end hc5 hI k.2.1 (v := 3) (by decide) (by decide) (fun j hj => ?_) (by rw [e1, if_neg (by omega), up_s]) (fun m hm h1 h2 => by rw [e1, if_neg (by omega), up_n h2])
      rw [e1]
      by_cases z : a9 (4 + j) = nI c
      · have jl : j < sh7.toNatClampNeg := by
          rcases Nat.lt_or_ge j (sh7.toNatClampNeg) with w | w
          · exact w
          · have := hI.2.2.2.1 j hj w
            rw [z] at this
            exact absurd this (nI_m1 (by omega))
        rw [if_pos z, if_pos ⟨by omega, by omega, z⟩]
      · rw [if_neg z, if_neg (fun w => z w.2.2), up_n (by omega)]
    have hP2 := push_rp hc5 hD hI hP
    have hw := (hC _ k.2.1).2.2.2.1
    by_cases q1 : a9 (12 + c) = 0
    · have q2 : a9 (12 + c) ≤ 1 := by rw [q1]; decide
      simp only [if_pos q1, if_pos q2]
      exact ⟨hw, hD2, hI2, hP2⟩
    · by_cases q3 : a9 (12 + c) = 1
      · have q2 : a9 (12 + c) ≤ 1 := by rw [q3]; decide
        simp only [if_neg q1, if_pos q3, if_pos q2]
        exact ⟨hw, hD2, hI2, hP2⟩
      · have q2 : ¬ a9 (12 + c) ≤ 1 := by grind
        simp only [if_neg q1, if_neg q3, if_neg q2]
        exact ⟨trivial, hD, hI, hP⟩
end EQ6
