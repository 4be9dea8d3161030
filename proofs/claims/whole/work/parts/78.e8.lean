section EQ8
variable {dy0 dy1 dy2 dy3 dy4 sh0 sh1 sh2 sh3 sh4 sh5 a1 a3 a5 a6 a7 a8 a9 f : Nat → Int32} {dy5 sh6 sh7 sh8 a0 a2 a4 : Int32} {b : Int} {hu ca : Nat}
theorem next_r {d n : Int32} (h : 0 < n) : rX3_next d n = sdx d / 65536 - sdx d / 65536 / n * n := by
  unfold rX3_next
  rw [if_pos h]
  rfl
theorem next_s {d n : Int32} (h : 0 < n) : sX3_next_0 d n = sdx d := by
  unfold sX3_next_0
  rw [if_pos h]
  rfl
theorem next_n {d n : Int32} (h : ¬ 0 < n) : rX3_next d n = -1 ∧ sX3_next_0 d n = d := by
  unfold rX3_next sX3_next_0
  rw [if_neg h, if_neg h]
  exact ⟨rfl, rfl⟩
theorem hasHut_t {n x : Int32} (h0 : 0 ≤ x) (h : x < n) : ¬ rX0_hasHut n x = 0 := by
  unfold rX0_hasHut
  rw [if_neg (Int32.not_lt.mpr h0), if_neg (Int32.not_le.mpr h)]
  decide
theorem hasCase_t {n x : Int32} (h0 : 0 ≤ x) (h : x < n) : ¬ rX0_hasCase n x = 0 := by
  unfold rX0_hasCase
  rw [if_neg (Int32.not_lt.mpr h0), if_neg (Int32.not_le.mpr h)]
  decide
theorem hasCase_m {n : Int32} : rX0_hasCase n (-1) = 0 := by
  unfold rX0_hasCase
  rw [if_pos (by decide)]
theorem hasHut_m {n : Int32} : rX0_hasHut n (-1) = 0 := by
  unfold rX0_hasHut
  rw [if_pos (by decide)]
/-- by draws, ahead of an hour -/
theorem act_eq (hB : RB sh0 sh1 sh2 sh3 sh4 sh5 sh6 sh7 sh8 a0 a1 a2 a3 a4 a5 a6 a7 a8) (hD : RD dy0 dy1 dy2 dy3 dy4 dy5 f) (hI : DI (a2.toNatClampNeg) (a4.toNatClampNeg) b f) {s : Int32} (s0 : 0 ≤ s) (hp : 0 < a2) : RD (sX9_actByDraws_o1_0 dy0 dy1 dy2 dy3 s sh1 sh7 sh8) (sX9_actByDraws_o1_1 dy0 dy1 dy2 dy3 s sh1 sh7 sh8) (sX9_actByDraws_o1_2 dy0 dy1 dy2 dy3 s sh1 sh7 sh8) (sX9_actByDraws_o1_3 dy0 dy1 dy2 dy3 s sh1 sh7 sh8) dy4 dy5 (sX10_chance_9 a2 a3 a4 f s) ∧ DI (a2.toNatClampNeg) (a4.toNatClampNeg) b (sX10_chance_9 a2 a3 a4 f s) ∧ sX9_actByDraws_o7_0 dy0 dy1 dy2 dy3 s sh1 sh7 sh8 = sX10_chance_10 a2 a3 a4 f s := by
  obtain ⟨⟨rfl, rfl, rfl⟩, -, ⟨h0, h4⟩, ⟨c0, c5⟩, -, -, -, hH, -⟩ := hB
  have hc5 := clampLe (n := 5) (b := 5) rfl c0 c5
  have hu4 := clampLe (n := 4) (b := 4) rfl h0 h4
  have p10 : (0 : Int32) < 10 := by decide
  have qh := rem_in (x := sdx s) (sdx_nn s0) hp
  have qx := rem_in (x := sdx (sdx s)) (sdx_nn (sdx_nn s0)) p10
  have e1 : nX9_actByDraws_11_r s sh7 = sdx s / 65536 - sdx s / 65536 / sh7 * sh7 := next_r hp
  have e2 : nX9_actByDraws_11_o7_0 s sh7 = sdx s := next_s hp
  have e3 : nX9_actByDraws_33_r s sh7 = sdx (sdx s) / 65536 - sdx (sdx s) / 65536 / 10 * 10 := by
    unfold nX9_actByDraws_33_r
    rw [e2, next_r p10]
  have e4 : nX9_actByDraws_33_o7_0 s sh7 = sdx (sdx s) := by
    unfold nX9_actByDraws_33_o7_0
    rw [e2, next_s p10]
  have e5 : nX9_actByDraws_78_r s sh7 sh8 = rX3_next (sdx (sdx s)) sh8 := by unfold nX9_actByDraws_78_r; rw [e4]
  have e6 : nX9_actByDraws_78_o7_0 s sh7 sh8 = sX3_next_0 (sdx (sdx s)) sh8 := by unfold nX9_actByDraws_78_o7_0; rw [e4]
  have e5b : nX9_actByDraws_78b_r s sh7 sh8 = rX3_next (sdx (sdx s)) sh8 := by unfold nX9_actByDraws_78b_r; rw [e4]
  have e6b : nX9_actByDraws_78b_o7_0 s sh7 sh8 = sX3_next_0 (sdx (sdx s)) sh8 := by unfold nX9_actByDraws_78b_o7_0; rw [e4]
  unfold sX9_actByDraws_o1_0 sX9_actByDraws_o1_1 sX9_actByDraws_o1_2 sX9_actByDraws_o1_3 sX9_actByDraws_o7_0 sX10_chance_9 sX10_chance_10
  simp only [e1, e3, e5, e6, e5b, e6b]
  have qc : 0 < sh8 → 0 ≤ sdx (sdx (sdx s)) / 65536 - sdx (sdx (sdx s)) / 65536 / sh8 * sh8 ∧ sdx (sdx (sdx s)) / 65536 - sdx (sdx (sdx s)) / 65536 / sh8 * sh8 < sh8 := fun w => rem_in (sdx_nn (sdx_nn (sdx_nn s0))) w
  have en : 0 < sh8 → rX3_next (sdx (sdx s)) sh8 = sdx (sdx (sdx s)) / 65536 - sdx (sdx (sdx s)) / 65536 / sh8 * sh8 := fun w => next_r w
  generalize sdx s / 65536 - sdx s / 65536 / sh7 * sh7 = h at qh ⊢
  generalize sdx (sdx s) / 65536 - sdx (sdx s) / 65536 / 10 * 10 = x at qx ⊢
  generalize sdx (sdx (sdx s)) / 65536 - sdx (sdx (sdx s)) / 65536 / sh8 * sh8 = c at qc en ⊢
  have nh := hasHut_t qh.1 qh.2
  have k := hut_ok h4 nh
  have hh := hH _ k.2.1
  have x9 : x ≤ 9 := by grind
  have cd := canD (a3 := a3) hD hI (h := h) (x := x) (pc := sh1 (h.toNatClampNeg)) k.1 k.2.2 qx.1 x9 hh.1 (by rw [hh.1]; exact hh.2.1) (by rw [hh.1]; exact hh.2.2)
  simp only [if_neg nh, cd]
  have fin : ∀ (w0 w2 g : Nat → Int32), RD w0 dy1 w2 dy3 dy4 dy5 g → DI (sh7.toNatClampNeg) (sh8.toNatClampNeg) b g → RD w0 (if rX0_hasCase sh8 (rX3_next (sdx (sdx s)) sh8) = 0 then dy1 else if rX2_canEnter w0 dy1 dy3 (rX3_next (sdx (sdx s)) sh8) h = 0 then dy1 else sX2_enter_1 dy1 (rX3_next (sdx (sdx s)) sh8) h) w2 (if rX0_hasCase sh8 (rX3_next (sdx (sdx s)) sh8) = 0 then dy3 else if rX2_canEnter w0 dy1 dy3 (rX3_next (sdx (sdx s)) sh8) h = 0 then dy3 else sX2_enter_3 dy3 (rX3_next (sdx (sdx s)) sh8)) dy4 dy5 (if sh8 ≤ 0 then g else if rX10_canBring g c h = 0 then g else sX10_bringNow_9 g c h) ∧ DI (sh7.toNatClampNeg) (sh8.toNatClampNeg) b (if sh8 ≤ 0 then g else if rX10_canBring g c h = 0 then g else sX10_bringNow_9 g c h) ∧ sX3_next_0 (sdx (sdx s)) sh8 = if sh8 ≤ 0 then sdx (sdx s) else sdx (sdx (sdx s)) := fun w0 w2 g gD gI => by
    by_cases w : sh8 ≤ 0
    · have nn := next_n (d := sdx (sdx s)) (n := sh8) (Int32.not_lt.mpr w)
      rw [nn.1, nn.2]
      simp only [if_pos w, if_pos hasCase_m]
      exact ⟨gD, gI, trivial⟩
    · have wp := Int32.not_le.mp w
      have qc := qc wp
      rw [en wp, next_s wp]
      have nc := hasCase_t qc.1 qc.2
      have kc2 := case_ok c5 nc
      have cb := canB hc5 gD gI kc2.1 kc2.2.2 k.1 k.2.2
      simp only [if_neg w, if_neg nc, cb]
      by_cases q3 : rX2_canEnter w0 dy1 dy3 c h = 0
      · simp only [if_pos q3]
        exact ⟨gD, gI, trivial⟩
      · simp only [if_neg q3]
        refine ⟨RD_bring gD kc2.1 kc2.2.2 k.1 k.2.2, ?_, trivial⟩
        rw [bringNow_eq kc2.1 kc2.2.2 k.1 k.2.2]
        exact DI_bring hc5 hu4 gI kc2.2.1 k.2.1 (canB_0 (fun e => q3 (cb.mp e)) kc2.1 kc2.2.2)
  by_cases q : rX2_canMove dy0 dy2 h x (sh1 (h.toNatClampNeg)) = 0
  · simp only [if_pos q, ite_self]
    exact fin dy0 dy2 f hD hI
  · simp only [if_neg q, ite_self]
    have hD2 := RD_draw (x := x) hD k.1 k.2.2
    have hI2 : DI (sh7.toNatClampNeg) (sh8.toNatClampNeg) b (sX10_drawNow_9 f h x) := by
      rw [drawNow_eq k.1 k.2.2]
      exact DI_draw hI hc5 k.2.2 qx.1 x9
    exact fin _ _ _ hD2 hI2
theorem act_no {s : Int32} (hp : ¬ 0 < sh7) : sX9_actByDraws_o1_0 dy0 dy1 dy2 dy3 s sh1 sh7 sh8 = dy0 ∧ sX9_actByDraws_o1_1 dy0 dy1 dy2 dy3 s sh1 sh7 sh8 = dy1 ∧ sX9_actByDraws_o1_2 dy0 dy1 dy2 dy3 s sh1 sh7 sh8 = dy2 ∧ sX9_actByDraws_o1_3 dy0 dy1 dy2 dy3 s sh1 sh7 sh8 = dy3 ∧ sX9_actByDraws_o7_0 dy0 dy1 dy2 dy3 s sh1 sh7 sh8 = s := by
  have nn := next_n (d := s) (n := sh7) hp
  have e1 : rX0_hasHut sh7 (nX9_actByDraws_11_r s sh7) = 0 := by unfold nX9_actByDraws_11_r; rw [nn.1]; exact hasHut_m
  unfold sX9_actByDraws_o1_0 sX9_actByDraws_o1_1 sX9_actByDraws_o1_2 sX9_actByDraws_o1_3 sX9_actByDraws_o7_0
  simp only [if_pos e1]
  exact ⟨trivial, trivial, trivial, trivial, nn.2⟩
theorem drift25 (hB : RB sh0 sh1 sh2 sh3 sh4 sh5 sh6 sh7 sh8 a0 a1 a2 a3 a4 a5 a6 a7 a8) (hD : RD dy0 dy1 dy2 dy3 dy4 dy5 f) (hI : DI (a2.toNatClampNeg) (a4.toNatClampNeg) 9000 f) {s : Int32} (s0 : 0 ≤ s) (tp : 0 < a0) : ∀ k : Nat, k ≤ 60 → RD (aX9_drift_25 dy0 dy1 dy2 dy3 dy4 dy5 s sh0 sh1 sh2 sh3 sh4 sh6 sh7 sh8 k).1 (aX9_drift_25 dy0 dy1 dy2 dy3 dy4 dy5 s sh0 sh1 sh2 sh3 sh4 sh6 sh7 sh8 k).2.1 (aX9_drift_25 dy0 dy1 dy2 dy3 dy4 dy5 s sh0 sh1 sh2 sh3 sh4 sh6 sh7 sh8 k).2.2.1 (aX9_drift_25 dy0 dy1 dy2 dy3 dy4 dy5 s sh0 sh1 sh2 sh3 sh4 sh6 sh7 sh8 k).2.2.2.1 (aX9_drift_25 dy0 dy1 dy2 dy3 dy4 dy5 s sh0 sh1 sh2 sh3 sh4 sh6 sh7 sh8 k).2.2.2.2.1 (aX9_drift_25 dy0 dy1 dy2 dy3 dy4 dy5 s sh0 sh1 sh2 sh3 sh4 sh6 sh7 sh8 k).2.2.2.2.2.1 (aX10_drift_18 a0 a1 a2 a3 a4 a5 a6 a7 f s k).1 ∧ DI (a2.toNatClampNeg) (a4.toNatClampNeg) (9000 + k) (aX10_drift_18 a0 a1 a2 a3 a4 a5 a6 a7 f s k).1 ∧ (aX9_drift_25 dy0 dy1 dy2 dy3 dy4 dy5 s sh0 sh1 sh2 sh3 sh4 sh6 sh7 sh8 k).2.2.2.2.2.2 = (aX10_drift_18 a0 a1 a2 a3 a4 a5 a6 a7 f s k).2 ∧ 0 ≤ (aX10_drift_18 a0 a1 a2 a3 a4 a5 a6 a7 f s k).2 := by
  intro k
  induction k with
  | zero => intro _; exact ⟨hD, hI, rfl, s0⟩
  | succ k ih =>
    intro hk
    obtain ⟨ihD, ihI, ihs, ih0⟩ := ih (by omega)
    rw [aX9_drift_25, aX10_drift_18]
    generalize aX9_drift_25 dy0 dy1 dy2 dy3 dy4 dy5 s sh0 sh1 sh2 sh3 sh4 sh6 sh7 sh8 k = t at ihD ihs ⊢
    generalize aX10_drift_18 a0 a1 a2 a3 a4 a5 a6 a7 f s k = g at ihD ihI ihs ih0 ⊢
    rw [show (9000 : Int) + ((k + 1 : Nat) : Int) = 9000 + (k : Int) + 1 by omega]
    rw [ihs]
    by_cases q : a2 ≤ 0
    · have an := act_no (dy0 := t.1) (dy1 := t.2.1) (dy2 := t.2.2.1) (dy3 := t.2.2.2.1) (sh1 := sh1) (sh7 := sh7) (sh8 := sh8) (s := g.2) (by rw [hB.1.2.1]; exact Int32.not_lt.mpr q)
      simp only [if_pos q]
      rw [an.1, an.2.1, an.2.2.1, an.2.2.2.1, an.2.2.2.2]
      have p := pass_eq hB ihD ihI (by omega) tp
      exact ⟨p.1, p.2, rfl, ih0⟩
    · simp only [if_neg q]
      have ae := act_eq hB ihD ihI ih0 (Int32.not_le.mp q)
      have p := pass_eq hB ae.1 ae.2.1 (by omega) tp
      exact ⟨p.1, p.2, ae.2.2, chance_10 ih0⟩
theorem e_drift {pa0 a27 : Nat → Int32} {pa1 pa2 a26 dr0 a10 p0 : Int32} (hB : RB sh0 sh1 sh2 sh3 sh4 sh5 sh6 sh7 sh8 a0 a1 a2 a3 a4 a5 a6 a7 a8) (hD : RD dy0 dy1 dy2 dy3 dy4 dy5 a9) (hI : DI (a2.toNatClampNeg) (a4.toNatClampNeg) 9060 a9) (hP : RP (a2.toNatClampNeg) (a4.toNatClampNeg) pa0 pa1 pa2 a26 a27) (hS : dr0 = a10) (s0 : 0 ≤ a10) : rX9_drift dy0 dy1 dy2 dy3 dy4 dy5 dr0 sh0 sh1 sh2 sh3 sh4 sh6 sh7 sh8 p0 = rX10_drift a0 a1 a2 a3 a4 a5 a6 a7 a9 a10 p0 ∧ RD (sX9_drift_o1_0 dy0 dy1 dy2 dy3 dy4 dy5 dr0 sh0 sh1 sh2 sh3 sh4 sh6 sh7 sh8 p0) (sX9_drift_o1_1 dy0 dy1 dy2 dy3 dy4 dy5 dr0 sh0 sh1 sh2 sh3 sh4 sh6 sh7 sh8 p0) (sX9_drift_o1_2 dy0 dy1 dy2 dy3 dy4 dy5 dr0 sh0 sh1 sh2 sh3 sh4 sh6 sh7 sh8 p0) (sX9_drift_o1_3 dy0 dy1 dy2 dy3 dy4 dy5 dr0 sh0 sh1 sh2 sh3 sh4 sh6 sh7 sh8 p0) (sX9_drift_o1_4 dy0 dy1 dy2 dy3 dy4 dy5 dr0 sh0 sh1 sh2 sh3 sh4 sh6 sh7 sh8 p0) (sX9_drift_o1_5 dy0 dy1 dy2 dy3 dy4 dy5 dr0 sh0 sh1 sh2 sh3 sh4 sh6 sh7 sh8 p0) (sX10_drift_9 a0 a1 a2 a3 a4 a5 a6 a7 a9 a10 p0) ∧ DI (a2.toNatClampNeg) (a4.toNatClampNeg) 9060 (sX10_drift_9 a0 a1 a2 a3 a4 a5 a6 a7 a9 a10 p0) ∧ RP (a2.toNatClampNeg) (a4.toNatClampNeg) (sX9_drift_o2_0 dy0 dy1 dy2 dy3 dy4 dy5 pa0 pa1 sh6 p0) (sX9_drift_o2_1 dy5 pa1 sh6 p0) (sX9_drift_o2_2 dy5 pa2 sh6 p0) (sX10_drift_26 a0 a9 a26 p0) (sX10_drift_27 a0 a9 a26 a27 p0) ∧ sX9_drift_o7_0 dy0 dy1 dy2 dy3 dy4 dy5 dr0 sh0 sh1 sh2 sh3 sh4 sh6 sh7 sh8 p0 = sX10_drift_10 a0 a1 a2 a3 a4 a5 a6 a7 a9 a10 p0 ∧ 0 ≤ sX10_drift_10 a0 a1 a2 a3 a4 a5 a6 a7 a9 a10 p0 := by
  subst hS
  have c0 := hB.2.2.2.1
  have hc5 := clampLe (n := 5) (b := 5) rfl c0.1 c0.2
  unfold rX9_drift rX10_drift sX9_drift_o1_0 sX9_drift_o1_1 sX9_drift_o1_2 sX9_drift_o1_3 sX9_drift_o1_4 sX9_drift_o1_5 sX10_drift_9 sX9_drift_o2_0 sX9_drift_o2_1 sX9_drift_o2_2 sX10_drift_26 sX10_drift_27 sX9_drift_o7_0 sX10_drift_10
  simp only [ref_eq (p0 := p0) hB hD]
  by_cases q : rX10_hoursRefused a0 a9 p0 = 0
  · simp only [if_pos q]
    have r := hr0 q
    have n60 := clampLe (x := p0) (n := 60) (b := 60) rfl (by grind) r.1.2
    have t0 := hB.2.1.1
    have hr := drift25 hB hD (DI_9000 hI r.2.2) s0 (by have := r.2.1; grind) (p0.toNatClampNeg) n60
    refine ⟨?_, hr.1, DI_mono (by omega) hr.2.1, push_rp hc5 hD hI hP, hr.2.2.1, hr.2.2.2⟩
    rw [hB.1.2.2]
    rw [hB.1.2.2] at hr
    exact set_e c0.1 c0.2 hr.1.2.2.2.1
  · simp only [if_neg q]
    exact ⟨trivial, hD, hI, hP, trivial, s0⟩
end EQ8
