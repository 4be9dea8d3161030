theorem iX8_add_X8 : ∀ z ∈ wsX80, z ∈ wsX8_add := fun z h => List.mem_cons_of_mem _ (List.mem_append_right _ h)
theorem kX8_add_19 : Cond.fieldLink RX8 19 "BathingCourt$Reader" (TX8 2).2.1 (TX8 2).2.2.1 ∈ wsX8_add := List.mem_of_getElem? (i := 1) rfl
theorem kX8_add_9 : Cond.fieldLink RX8 9 "BathingCourt$Reader" (TX8 0).2.1 (TX8 0).2.2.1 ∈ wsX8_add := List.mem_of_getElem? (i := 2) rfl
def rX8_add (a2 : Int32) : Int32 := if (240 : Int32) ≤ a2 then a2 else (a2 + (1 : Int32))
def sX8_add_0 (a0 : Nat → Int32) (a2 p0 : Int32) : Nat → Int32 := if (240 : Int32) ≤ a2 then a0 else (upd a0 a2.toNatClampNeg p0)
def sX8_add_2 (a2 : Int32) : Int32 := if (240 : Int32) ≤ a2 then a2 else (a2 + (1 : Int32))
set_option maxRecDepth 100000 in
set_option maxHeartbeats 4000000 in
theorem c_X8_add (l : Launch) (G : GT) (ad : Nat → Nat) (a0 : Nat → Int32) (a1 a2 a3 a4 p0 : Int32) (h0 : 0 ≤ a2) : Ci l G yX8_add wsX8_add (rmL 0) [.ref (ad 0), .int p0] (wX8 G ad a0 a1 a2 a3 a4) (rX8_add a2) (wX8 G ad (sX8_add_0 a0 a2 p0) a1 (sX8_add_2 a2) a3 a4) := by
  refine ci_start .int (by decide) rfl rfl (Nat.le_of_ble_eq_true rfl) ?_
  intro p e s m args below meth c A X
  refine s_perm (lv2 := [(0, .ref (ad 0)), (1, .int p0)]) [0, 1] rfl ?_
  refine s_aload_n X (pc := 0) (x := (ad 0)) 0 dX8_add_0 rfl ?_
  refine s_get X (pc := 1) (v := .int a2) iX8_add_X8 0 rfl rfl 2 (by decide) kX8_add_19 rfl rfl dX8_add_1 ?_
  refine s_sipush X (pc := 4) (v := 240) dX8_add_4 (by decide) ?_
  refine s_icmp_ge X (pc := 7) (tgt := 30) dX8_add_7 (by decide) (fun c7 => ?_) (fun c7 => ?_)
  ·
    refine s_aload_n X (pc := 30) (x := (ad 0)) 0 dX8_add_30 rfl ?_
    refine s_get X (pc := 31) (v := .int a2) iX8_add_X8 0 rfl rfl 2 (by decide) kX8_add_19 rfl rfl dX8_add_31 ?_
    exact s_iret X (pc := 34) (v := a2) dX8_add_34 (Eq.symm (show rX8_add a2 = a2 from (by unfold rX8_add; exact (if_pos c7)))) (by rw [show sX8_add_0 a0 a2 p0 = a0 from (by unfold sX8_add_0; exact (if_pos c7)), show sX8_add_2 a2 = a2 from (by unfold sX8_add_2; exact (if_pos c7))])
  ·
    refine s_aload_n X (pc := 10) (x := (ad 0)) 0 dX8_add_10 rfl ?_
    refine s_get X (pc := 11) (v := .ref (ad 1)) iX8_add_X8 0 rfl rfl 0 (by decide) kX8_add_9 rfl rfl dX8_add_11 ?_
    refine s_aload_n X (pc := 14) (x := (ad 0)) 0 dX8_add_14 rfl ?_
    refine s_get X (pc := 15) (v := .int a2) iX8_add_X8 0 rfl rfl 2 (by decide) kX8_add_19 rfl rfl dX8_add_15 ?_
    refine s_iload_n X (pc := 18) (x := p0) 1 dX8_add_18 rfl ?_
    refine s_iast X (pc := 19) (n := 240) (f := a0) (w2 := wX8 G ad (upd a0 a2.toNatClampNeg p0) a1 a2 a3 a4) 1 rfl (by first | with_reducible assumption | exact vin (b := 240) rfl (by grind) (by grind)) rfl dX8_add_19 ?_
    refine s_aload_n X (pc := 20) (x := (ad 0)) 0 dX8_add_20 rfl ?_
    refine s_dup X (pc := 21) dX8_add_21 rfl ?_
    refine s_get X (pc := 22) (v := .int a2) iX8_add_X8 0 rfl rfl 2 (by decide) kX8_add_19 rfl rfl dX8_add_22 ?_
    refine s_iconst X (pc := 25) (v := 1) dX8_add_25 (by decide) ?_
    refine s_iadd X (pc := 26) dX8_add_26 ?_
    refine s_put X (pc := 27) (v := .int (a2 + (1 : Int32))) (w2 := wX8 G ad (upd a0 a2.toNatClampNeg p0) a1 (a2 + (1 : Int32)) a3 a4) iX8_add_X8 0 rfl rfl 2 (by decide) kX8_add_19 rfl tyX8 tyX8_ok nmX8 rfl (ty := .int) (by decide +kernel) rfl rfl (Nat.le_of_ble_eq_true rfl) rfl dX8_add_27 ?_
    refine s_aload_n X (pc := 30) (x := (ad 0)) 0 dX8_add_30 rfl ?_
    refine s_get X (pc := 31) (v := .int (a2 + (1 : Int32))) iX8_add_X8 0 rfl rfl 2 (by decide) kX8_add_19 rfl rfl dX8_add_31 ?_
    exact s_iret X (pc := 34) (v := a2 + (1 : Int32)) dX8_add_34 (Eq.symm (show rX8_add a2 = a2 + (1 : Int32) from (by unfold rX8_add; exact (if_neg c7)))) (by rw [show sX8_add_0 a0 a2 p0 = upd a0 a2.toNatClampNeg p0 from (by unfold sX8_add_0; exact (if_neg c7)), show sX8_add_2 a2 = a2 + (1 : Int32) from (by unfold sX8_add_2; exact (if_neg c7))])

def rX8_isFigure (p0 : Int32) : Int32 := if p0 < (48 : Int32) then (0 : Int32) else (if (57 : Int32) < p0 then (0 : Int32) else (1 : Int32))
set_option maxRecDepth 100000 in
set_option maxHeartbeats 4000000 in
theorem c_X8_isFigure (l : Launch) (G : GT) (p0 : Int32) : Ci l G yX8_isFigure wsX8_isFigure (rmL 0) [.int p0] ([]) (rX8_isFigure p0) ([]) := by
  refine ci_start .boolean (by decide) rfl rfl (Nat.le_of_ble_eq_true rfl) ?_
  intro p e s m args below meth c A X
  refine s_perm (lv2 := [(0, .int p0)]) [0] rfl ?_
  refine s_iload_n X (pc := 0) (x := p0) 0 dX8_isFigure_0 rfl ?_
  refine s_bipush X (pc := 1) (v := 48) dX8_isFigure_1 (by decide) ?_
  refine s_icmp_lt X (pc := 3) (tgt := 16) dX8_isFigure_3 (by decide) (fun c3 => ?_) (fun c3 => ?_)
  ·
    refine s_iconst X (pc := 16) (v := 0) dX8_isFigure_16 (by decide) ?_
    exact s_zret X (pc := 17) (v := (0 : Int32)) (Or.inl rfl) dX8_isFigure_17 (Eq.symm (show rX8_isFigure p0 = (0 : Int32) from (by unfold rX8_isFigure; exact (if_pos c3)))) rfl
  ·
    refine s_iload_n X (pc := 6) (x := p0) 0 dX8_isFigure_6 rfl ?_
    refine s_bipush X (pc := 7) (v := 57) dX8_isFigure_7 (by decide) ?_
    refine s_icmp_gt X (pc := 9) (tgt := 16) dX8_isFigure_9 (by decide) (fun c9 => ?_) (fun c9 => ?_)
    ·
      refine s_iconst X (pc := 16) (v := 0) dX8_isFigure_16 (by decide) ?_
      exact s_zret X (pc := 17) (v := (0 : Int32)) (Or.inl rfl) dX8_isFigure_17 (Eq.symm (show rX8_isFigure p0 = (0 : Int32) from (by unfold rX8_isFigure; exact ((if_neg c3).trans (if_pos c9))))) rfl
    ·
      refine s_iconst X (pc := 12) (v := 1) dX8_isFigure_12 (by decide) ?_
      refine s_goto X (pc := 13) (tgt := 17) dX8_isFigure_13 (by decide) ?_
      exact s_zret X (pc := 17) (v := (1 : Int32)) (Or.inr rfl) dX8_isFigure_17 (Eq.symm (show rX8_isFigure p0 = (1 : Int32) from (by unfold rX8_isFigure; exact ((if_neg c3).trans (if_neg c9))))) rfl
theorem bX8_isFigure (p0 : Int32) : rX8_isFigure p0 = 0 ∨ rX8_isFigure p0 = 1 := by
  unfold rX8_isFigure
  repeat' split
  all_goals first | exact Or.inl rfl | exact Or.inr rfl

theorem iX8_letter_X8 : ∀ z ∈ wsX80, z ∈ wsX8_letter := fun z h => List.mem_cons_of_mem _ (List.mem_append_right _ h)
theorem kX8_letter_22 : Cond.fieldLink RX8 22 "BathingCourt$Reader" (TX8 1).2.1 (TX8 1).2.2.1 ∈ wsX8_letter := List.mem_of_getElem? (i := 1) rfl
theorem kX8_letter_19 : Cond.fieldLink RX8 19 "BathingCourt$Reader" (TX8 2).2.1 (TX8 2).2.2.1 ∈ wsX8_letter := List.mem_of_getElem? (i := 2) rfl
theorem kX8_letter_9 : Cond.fieldLink RX8 9 "BathingCourt$Reader" (TX8 0).2.1 (TX8 0).2.2.1 ∈ wsX8_letter := List.mem_of_getElem? (i := 3) rfl
def rX8_letter (a0 : Nat → Int32) (a1 a2 : Int32) : Int32 := if a1 < 0 then (-1 : Int32) else (if a2 ≤ a1 then (-1 : Int32) else (if (240 : Int32) ≤ a1 then (-1 : Int32) else (a0 a1.toNatClampNeg)))
set_option maxRecDepth 100000 in
set_option maxHeartbeats 4000000 in
theorem c_X8_letter (l : Launch) (G : GT) (ad : Nat → Nat) (a0 : Nat → Int32) (a1 a2 a3 a4 : Int32) : Ci l G yX8_letter wsX8_letter (rmL 0) [.ref (ad 0)] (wX8 G ad a0 a1 a2 a3 a4) (rX8_letter a0 a1 a2) (wX8 G ad a0 a1 a2 a3 a4) := by
  refine ci_start .int (by decide) rfl rfl (Nat.le_of_ble_eq_true rfl) ?_
  intro p e s m args below meth c A X
  refine s_perm (lv2 := [(0, .ref (ad 0))]) [0] rfl ?_
  refine s_aload_n X (pc := 0) (x := (ad 0)) 0 dX8_letter_0 rfl ?_
  refine s_get X (pc := 1) (v := .int a1) iX8_letter_X8 0 rfl rfl 1 (by decide) kX8_letter_22 rfl rfl dX8_letter_1 ?_
  refine s_if_lt X (pc := 4) (tgt := 40) dX8_letter_4 (by decide) (fun c4 => ?_) (fun c4 => ?_)
  ·
    refine s_iconst X (pc := 40) (v := -1) dX8_letter_40 (by decide) ?_
    exact s_iret X (pc := 41) (v := (-1 : Int32)) dX8_letter_41 (Eq.symm (show rX8_letter a0 a1 a2 = (-1 : Int32) from (by unfold rX8_letter; exact (if_pos c4)))) rfl
  ·
    refine s_aload_n X (pc := 7) (x := (ad 0)) 0 dX8_letter_7 rfl ?_
    refine s_get X (pc := 8) (v := .int a1) iX8_letter_X8 0 rfl rfl 1 (by decide) kX8_letter_22 rfl rfl dX8_letter_8 ?_
    refine s_aload_n X (pc := 11) (x := (ad 0)) 0 dX8_letter_11 rfl ?_
    refine s_get X (pc := 12) (v := .int a2) iX8_letter_X8 0 rfl rfl 2 (by decide) kX8_letter_19 rfl rfl dX8_letter_12 ?_
    refine s_icmp_ge X (pc := 15) (tgt := 40) dX8_letter_15 (by decide) (fun c15 => ?_) (fun c15 => ?_)
    ·
      refine s_iconst X (pc := 40) (v := -1) dX8_letter_40 (by decide) ?_
      exact s_iret X (pc := 41) (v := (-1 : Int32)) dX8_letter_41 (Eq.symm (show rX8_letter a0 a1 a2 = (-1 : Int32) from (by unfold rX8_letter; exact ((if_neg c4).trans (if_pos c15))))) rfl
    ·
      refine s_aload_n X (pc := 18) (x := (ad 0)) 0 dX8_letter_18 rfl ?_
      refine s_get X (pc := 19) (v := .int a1) iX8_letter_X8 0 rfl rfl 1 (by decide) kX8_letter_22 rfl rfl dX8_letter_19 ?_
      refine s_sipush X (pc := 22) (v := 240) dX8_letter_22 (by decide) ?_
      refine s_icmp_ge X (pc := 25) (tgt := 40) dX8_letter_25 (by decide) (fun c25 => ?_) (fun c25 => ?_)
      ·
        refine s_iconst X (pc := 40) (v := -1) dX8_letter_40 (by decide) ?_
        exact s_iret X (pc := 41) (v := (-1 : Int32)) dX8_letter_41 (Eq.symm (show rX8_letter a0 a1 a2 = (-1 : Int32) from (by unfold rX8_letter; exact ((if_neg c4).trans ((if_neg c15).trans (if_pos c25)))))) rfl
      ·
        refine s_aload_n X (pc := 28) (x := (ad 0)) 0 dX8_letter_28 rfl ?_
        refine s_get X (pc := 29) (v := .ref (ad 1)) iX8_letter_X8 0 rfl rfl 0 (by decide) kX8_letter_9 rfl rfl dX8_letter_29 ?_
        refine s_aload_n X (pc := 32) (x := (ad 0)) 0 dX8_letter_32 rfl ?_
        refine s_get X (pc := 33) (v := .int a1) iX8_letter_X8 0 rfl rfl 1 (by decide) kX8_letter_22 rfl rfl dX8_letter_33 ?_
        refine s_iald X (pc := 36) (n := 240) (f := a0) 1 rfl (by first | with_reducible assumption | exact vin (b := 240) rfl (by grind) (by grind)) dX8_letter_36 ?_
        refine s_goto X (pc := 37) (tgt := 41) dX8_letter_37 (by decide) ?_
        exact s_iret X (pc := 41) (v := a0 a1.toNatClampNeg) dX8_letter_41 (Eq.symm (show rX8_letter a0 a1 a2 = a0 a1.toNatClampNeg from (by unfold rX8_letter; exact ((if_neg c4).trans ((if_neg c15).trans (if_neg c25)))))) rfl

theorem iX8_note_X8 : ∀ z ∈ wsX80, z ∈ wsX8_note := fun z h => List.mem_cons_of_mem _ (List.mem_append_right _ h)
theorem kX8_note_25 : Cond.fieldLink RX8 25 "BathingCourt$Reader" (TX8 3).2.1 (TX8 3).2.2.1 ∈ wsX8_note := List.mem_of_getElem? (i := 1) rfl
theorem kX8_note_15 : Cond.fieldLink RX8 15 "BathingCourt$Reader" (TX8 4).2.1 (TX8 4).2.2.1 ∈ wsX8_note := List.mem_of_getElem? (i := 2) rfl
def sX8_note_3 (a3 p0 : Int32) : Int32 := if a3 = 0 then p0 else a3
def sX8_note_4 (a3 a4 p1 : Int32) : Int32 := if a3 = 0 then p1 else a4
set_option maxRecDepth 100000 in
set_option maxHeartbeats 4000000 in
theorem c_X8_note (l : Launch) (G : GT) (ad : Nat → Nat) (a0 : Nat → Int32) (a1 a2 a3 a4 p0 p1 : Int32) : Cv l G yX8_note wsX8_note (rmL 0) [.ref (ad 0), .int p0, .int p1] (wX8 G ad a0 a1 a2 a3 a4) (wX8 G ad a0 a1 a2 (sX8_note_3 a3 p0) (sX8_note_4 a3 a4 p1)) := by
  refine cv_start (by decide) rfl rfl (Nat.le_of_ble_eq_true rfl) ?_
  intro p e s m args below meth c A X
  refine s_perm (lv2 := [(0, .ref (ad 0)), (1, .int p0), (2, .int p1)]) [0, 1, 2] rfl ?_
  refine s_aload_n X (pc := 0) (x := (ad 0)) 0 dX8_note_0 rfl ?_
  refine s_get X (pc := 1) (v := .int a3) iX8_note_X8 0 rfl rfl 3 (by decide) kX8_note_25 rfl rfl dX8_note_1 ?_
  refine s_if_ne X (pc := 4) (tgt := 17) dX8_note_4 (by decide) (fun c4 => ?_) (fun c4 => ?_)
  ·
    exact s_vret X (pc := 17) dX8_note_17 (by rw [show sX8_note_3 a3 p0 = a3 from (by unfold sX8_note_3; exact (if_neg c4)), show sX8_note_4 a3 a4 p1 = a4 from (by unfold sX8_note_4; exact (if_neg c4))])
  ·
    refine s_aload_n X (pc := 7) (x := (ad 0)) 0 dX8_note_7 rfl ?_
    refine s_iload_n X (pc := 8) (x := p0) 1 dX8_note_8 rfl ?_
    refine s_put X (pc := 9) (v := .int p0) (w2 := wX8 G ad a0 a1 a2 p0 a4) iX8_note_X8 0 rfl rfl 3 (by decide) kX8_note_25 rfl tyX8 tyX8_ok nmX8 rfl (ty := .int) (by decide +kernel) rfl rfl (Nat.le_of_ble_eq_true rfl) rfl dX8_note_9 ?_
    refine s_aload_n X (pc := 12) (x := (ad 0)) 0 dX8_note_12 rfl ?_
    refine s_iload_n X (pc := 13) (x := p1) 2 dX8_note_13 rfl ?_
    refine s_put X (pc := 14) (v := .int p1) (w2 := wX8 G ad a0 a1 a2 p0 p1) iX8_note_X8 0 rfl rfl 4 (by decide) kX8_note_15 rfl tyX8 tyX8_ok nmX8 rfl (ty := .int) (by decide +kernel) rfl rfl (Nat.le_of_ble_eq_true rfl) rfl dX8_note_14 ?_
    exact s_vret X (pc := 17) dX8_note_17 (by rw [show sX8_note_3 a3 p0 = p0 from (by unfold sX8_note_3; exact (if_pos c4)), show sX8_note_4 a3 a4 p1 = p1 from (by unfold sX8_note_4; exact (if_pos c4))])

theorem iX8_skipBlanks_X8 : ∀ z ∈ wsX80, z ∈ wsX8_skipBlanks := fun z h => List.mem_cons_of_mem _ (List.mem_append_right _ h)
theorem kX8_skipBlanks_22 : Cond.fieldLink RX8 22 "BathingCourt$Reader" (TX8 1).2.1 (TX8 1).2.2.1 ∈ wsX8_skipBlanks := List.mem_of_getElem? (i := 1) rfl
theorem kX8_skipBlanks_19 : Cond.fieldLink RX8 19 "BathingCourt$Reader" (TX8 2).2.1 (TX8 2).2.2.1 ∈ wsX8_skipBlanks := List.mem_of_getElem? (i := 2) rfl
def aX8_skipBlanks_0 (a0 : Nat → Int32) (a2 : Int32) : Nat → Int32 → Int32
  | 0, x => x
  | n0 + 1, x => if a2 ≤ x then x else (if (rX8_letter a0 x a2) = (32 : Int32) then (aX8_skipBlanks_0 a0 a2 n0 (x + (1 : Int32))) else x)
def sX8_skipBlanks_1 (a0 : Nat → Int32) (a1 a2 : Int32) : Int32 := aX8_skipBlanks_0 a0 a2 241 a1
set_option maxRecDepth 100000 in
set_option maxHeartbeats 4000000 in
theorem c_X8_skipBlanks (l : Launch) (G : GT) (ad : Nat → Nat) (a0 : Nat → Int32) (a1 a2 a3 a4 : Int32) (hp : 0 ≤ a1) (hl : a2 ≤ 240) : Cv l G yX8_skipBlanks wsX8_skipBlanks (rmL 1) [.ref (ad 0)] (wX8 G ad a0 a1 a2 a3 a4) (wX8 G ad a0 (sX8_skipBlanks_1 a0 a1 a2) a2 a3 a4) := by
  refine cv_start (by decide) rfl rfl (Nat.le_of_ble_eq_true rfl) ?_
  intro p e s m args below meth c A X
  refine s_perm (lv2 := [(0, .ref (ad 0))]) [0] rfl ?_
  refine s_perm (lv2 := [(0, .ref (ad 0))]) [0] rfl ?_
  have L0 : ∀ (n0 : Nat) (x : Int32), (0 ≤ x) → ((240 : Nat) - x.toInt).toNat < n0 → sX8_skipBlanks_1 a0 a1 a2 = aX8_skipBlanks_0 a0 a2 n0 x → Sm p l e (rmL 1) s m args below meth c G A 1 0 0 (Qcv below G A args s (wX8 G ad a0 (sX8_skipBlanks_1 a0 a1 a2) a2 a3 a4)) 0 [(0, .ref (ad 0))] [] (wX8 G ad a0 x a2 a3 a4) := by
    intro n0
    induction n0 with
    | zero => intro x hx hm0 hv0; exact absurd hm0 (Nat.not_lt_zero _)
    | succ n0 ih0 =>
      intro x hx hm0 hv0
      refine s_aload_n X (pc := 0) (x := (ad 0)) 0 dX8_skipBlanks_0 rfl ?_
      refine s_get X (pc := 1) (v := .int x) iX8_skipBlanks_X8 0 rfl rfl 1 (by decide) kX8_skipBlanks_22 rfl rfl dX8_skipBlanks_1 ?_
      refine s_aload_n X (pc := 4) (x := (ad 0)) 0 dX8_skipBlanks_4 rfl ?_
      refine s_get X (pc := 5) (v := .int a2) iX8_skipBlanks_X8 0 rfl rfl 2 (by decide) kX8_skipBlanks_19 rfl rfl dX8_skipBlanks_5 ?_
      refine s_icmp_ge X (pc := 8) (tgt := 33) dX8_skipBlanks_8 (by decide) (fun c8 => ?_) (fun c8 => ?_)
      ·
        exact s_vret X (pc := 33) dX8_skipBlanks_33 (by rw [show sX8_skipBlanks_1 a0 a1 a2 = x from (hv0.trans (show aX8_skipBlanks_0 a0 a2 (n0 + 1) x = x from by rw [aX8_skipBlanks_0]; exact (if_pos c8)))])
      ·
        refine s_aload_n X (pc := 11) (x := (ad 0)) 0 dX8_skipBlanks_11 rfl ?_
        refine s_callVi0 X (pc := 12) (r := rX8_letter a0 x a2) (w := wX8 G ad a0 x a2 a3 a4) (n := 0) (st := []) (As := []) (w2 := wX8 G ad a0 x a2 a3 a4) 0 (c_X8_letter l G ad a0 x a2 a3 a4) gX8_skipBlanks_X8_letter rfl (by decide +kernel) ⟨Nat.le_of_ble_eq_true rfl, Nat.le_of_ble_eq_true rfl⟩ 0 rfl rfl rfl rfl (Nat.le_of_ble_eq_true rfl) (Nat.zero_le _) (Nat.zero_le _) dX8_skipBlanks_12 ?_
        refine s_bipush X (pc := 15) (v := 32) dX8_skipBlanks_15 (by decide) ?_
        refine s_icmp_ne X (pc := 17) (tgt := 33) dX8_skipBlanks_17 (by decide) (fun c17 => ?_) (fun c17 => ?_)
        ·
          exact s_vret X (pc := 33) dX8_skipBlanks_33 (by rw [show sX8_skipBlanks_1 a0 a1 a2 = x from (hv0.trans (show aX8_skipBlanks_0 a0 a2 (n0 + 1) x = x from by rw [aX8_skipBlanks_0]; exact ((if_neg c8).trans (if_neg c17))))])
        ·
          refine s_aload_n X (pc := 20) (x := (ad 0)) 0 dX8_skipBlanks_20 rfl ?_
          refine s_dup X (pc := 21) dX8_skipBlanks_21 rfl ?_
          refine s_get X (pc := 22) (v := .int x) iX8_skipBlanks_X8 0 rfl rfl 1 (by decide) kX8_skipBlanks_22 rfl rfl dX8_skipBlanks_22 ?_
          refine s_iconst X (pc := 25) (v := 1) dX8_skipBlanks_25 (by decide) ?_
          refine s_iadd X (pc := 26) dX8_skipBlanks_26 ?_
          refine s_put X (pc := 27) (v := .int (x + (1 : Int32))) (w2 := wX8 G ad a0 (x + (1 : Int32)) a2 a3 a4) iX8_skipBlanks_X8 0 rfl rfl 1 (by decide) kX8_skipBlanks_22 rfl tyX8 tyX8_ok nmX8 rfl (ty := .int) (by decide +kernel) rfl rfl (Nat.le_of_ble_eq_true rfl) rfl dX8_skipBlanks_27 ?_
          refine s_goto X (pc := 30) (tgt := 0) dX8_skipBlanks_30 (by decide) ?_
          refine s_perm (lv2 := [(0, .ref (ad 0))]) [0] rfl ?_
          exact ih0 (x + (1 : Int32)) (by grind) (up_lt (b := 240) rfl (by grind) hm0) (hv0.trans (show aX8_skipBlanks_0 a0 a2 (n0 + 1) x = aX8_skipBlanks_0 a0 a2 n0 (x + (1 : Int32)) from by rw [aX8_skipBlanks_0]; exact ((if_neg c8).trans (if_pos c17))))
  exact L0 241 a1 hp (m_lt hp) rfl

theorem skip_nn0 {a0 : Nat → Int32} {a2 : Int32} (hl : a2 ≤ 240) : ∀ (n : Nat) (x : Int32), 0 ≤ x → 0 ≤ aX8_skipBlanks_0 a0 a2 n x
  | 0, x, h => h
  | n + 1, x, h => by
    unfold aX8_skipBlanks_0
    split
    · exact h
    · split
      · exact skip_nn0 hl n _ (by grind)
      · exact h
theorem skip_nn {a0 : Nat → Int32} {a1 a2 : Int32} (hp : 0 ≤ a1) (hl : a2 ≤ 240) : 0 ≤ sX8_skipBlanks_1 a0 a1 a2 := skip_nn0 hl _ _ hp

theorem iX8_passes_X8 : ∀ z ∈ wsX80, z ∈ wsX8_passes := fun z h => List.mem_cons_of_mem _ (List.mem_append_right _ h)
theorem kX8_passes_22 : Cond.fieldLink RX8 22 "BathingCourt$Reader" (TX8 1).2.1 (TX8 1).2.2.1 ∈ wsX8_passes := List.mem_of_getElem? (i := 1) rfl
def rX8_passes (a0 : Nat → Int32) (a1 a2 p0 : Int32) : Int32 := if (rX8_letter a0 (sX8_skipBlanks_1 a0 a1 a2) a2) = p0 then (1 : Int32) else (0 : Int32)
def sX8_passes_1 (a0 : Nat → Int32) (a1 a2 p0 : Int32) : Int32 := if (rX8_letter a0 (sX8_skipBlanks_1 a0 a1 a2) a2) = p0 then ((sX8_skipBlanks_1 a0 a1 a2) + (1 : Int32)) else (sX8_skipBlanks_1 a0 a1 a2)
set_option maxRecDepth 100000 in
set_option maxHeartbeats 4000000 in
theorem c_X8_passes (l : Launch) (G : GT) (ad : Nat → Nat) (a0 : Nat → Int32) (a1 a2 a3 a4 p0 : Int32) (hp : 0 ≤ a1) (hl : a2 ≤ 240) : Ci l G yX8_passes wsX8_passes (rmL 2) [.ref (ad 0), .int p0] (wX8 G ad a0 a1 a2 a3 a4) (rX8_passes a0 a1 a2 p0) (wX8 G ad a0 (sX8_passes_1 a0 a1 a2 p0) a2 a3 a4) := by
  refine ci_start .boolean (by decide) rfl rfl (Nat.le_of_ble_eq_true rfl) ?_
  intro p e s m args below meth c A X
  refine s_perm (lv2 := [(0, .ref (ad 0)), (1, .int p0)]) [0, 1] rfl ?_
  refine s_aload_n X (pc := 0) (x := (ad 0)) 0 dX8_passes_0 rfl ?_
  refine s_callVv0 X (pc := 1) (w := wX8 G ad a0 a1 a2 a3 a4) (n := 0) (st := []) (As := []) (w2 := wX8 G ad a0 (sX8_skipBlanks_1 a0 a1 a2) a2 a3 a4) 1 (c_X8_skipBlanks l G ad a0 a1 a2 a3 a4 (by first | with_reducible assumption | grind) (by first | with_reducible assumption | grind)) gX8_passes_X8_skipBlanks rfl (by decide +kernel) ⟨Nat.le_of_ble_eq_true rfl, Nat.le_of_ble_eq_true rfl⟩ 0 rfl rfl rfl rfl (Nat.le_of_ble_eq_true rfl) (Nat.zero_le _) (Nat.zero_le _) dX8_passes_1 ?_
  refine s_aload_n X (pc := 4) (x := (ad 0)) 0 dX8_passes_4 rfl ?_
  refine s_callVi0 X (pc := 5) (r := rX8_letter a0 (sX8_skipBlanks_1 a0 a1 a2) a2) (w := wX8 G ad a0 (sX8_skipBlanks_1 a0 a1 a2) a2 a3 a4) (n := 0) (st := []) (As := []) (w2 := wX8 G ad a0 (sX8_skipBlanks_1 a0 a1 a2) a2 a3 a4) 0 (c_X8_letter l G ad a0 (sX8_skipBlanks_1 a0 a1 a2) a2 a3 a4) gX8_passes_X8_letter rfl (by decide +kernel) ⟨Nat.le_of_ble_eq_true rfl, Nat.le_of_ble_eq_true rfl⟩ 0 rfl rfl rfl rfl (Nat.le_of_ble_eq_true rfl) (Nat.zero_le _) (Nat.zero_le _) dX8_passes_5 ?_
  refine s_iload_n X (pc := 8) (x := p0) 1 dX8_passes_8 rfl ?_
  refine s_icmp_eq X (pc := 9) (tgt := 14) dX8_passes_9 (by decide) (fun c9 => ?_) (fun c9 => ?_)
  ·
    refine s_aload_n X (pc := 14) (x := (ad 0)) 0 dX8_passes_14 rfl ?_
    refine s_dup X (pc := 15) dX8_passes_15 rfl ?_
    refine s_get X (pc := 16) (v := .int (sX8_skipBlanks_1 a0 a1 a2)) iX8_passes_X8 0 rfl rfl 1 (by decide) kX8_passes_22 rfl rfl dX8_passes_16 ?_
    refine s_iconst X (pc := 19) (v := 1) dX8_passes_19 (by decide) ?_
    refine s_iadd X (pc := 20) dX8_passes_20 ?_
    refine s_put X (pc := 21) (v := .int ((sX8_skipBlanks_1 a0 a1 a2) + (1 : Int32))) (w2 := wX8 G ad a0 ((sX8_skipBlanks_1 a0 a1 a2) + (1 : Int32)) a2 a3 a4) iX8_passes_X8 0 rfl rfl 1 (by decide) kX8_passes_22 rfl tyX8 tyX8_ok nmX8 rfl (ty := .int) (by decide +kernel) rfl rfl (Nat.le_of_ble_eq_true rfl) rfl dX8_passes_21 ?_
    refine s_iconst X (pc := 24) (v := 1) dX8_passes_24 (by decide) ?_
    exact s_zret X (pc := 25) (v := (1 : Int32)) (Or.inr rfl) dX8_passes_25 (Eq.symm (show rX8_passes a0 a1 a2 p0 = (1 : Int32) from (by unfold rX8_passes; exact (if_pos c9)))) (by rw [show sX8_passes_1 a0 a1 a2 p0 = (sX8_skipBlanks_1 a0 a1 a2) + (1 : Int32) from (by unfold sX8_passes_1; exact (if_pos c9))])
  ·
    refine s_iconst X (pc := 12) (v := 0) dX8_passes_12 (by decide) ?_
    exact s_zret X (pc := 13) (v := (0 : Int32)) (Or.inl rfl) dX8_passes_13 (Eq.symm (show rX8_passes a0 a1 a2 p0 = (0 : Int32) from (by unfold rX8_passes; exact (if_neg c9)))) (by rw [show sX8_passes_1 a0 a1 a2 p0 = sX8_skipBlanks_1 a0 a1 a2 from (by unfold sX8_passes_1; exact (if_neg c9))])
theorem bX8_passes (a0 : Nat → Int32) (a1 a2 p0 : Int32) : rX8_passes a0 a1 a2 p0 = 0 ∨ rX8_passes a0 a1 a2 p0 = 1 := by
  unfold rX8_passes
  repeat' split
  all_goals first | exact Or.inl rfl | exact Or.inr rfl

theorem iX8_readNumber_X8 : ∀ z ∈ wsX80, z ∈ wsX8_readNumber := fun z h => List.mem_cons_of_mem _ (List.mem_append_right _ h)
theorem kX8_readNumber_22 : Cond.fieldLink RX8 22 "BathingCourt$Reader" (TX8 1).2.1 (TX8 1).2.2.1 ∈ wsX8_readNumber := List.mem_of_getElem? (i := 1) rfl
theorem kX8_readNumber_19 : Cond.fieldLink RX8 19 "BathingCourt$Reader" (TX8 2).2.1 (TX8 2).2.2.1 ∈ wsX8_readNumber := List.mem_of_getElem? (i := 2) rfl
def aX8_readNumber_12 (a0 : Nat → Int32) (a1 a2 a3 a4 p0 p1 : Int32) : Nat → Int32 → Int32 → Int32 × Int32 × Int32 × Int32
  | 0, _, x => (0, x, a3, a4)
  | n12 + 1, v, x => if a2 ≤ x then (if x = (sX8_skipBlanks_1 a0 a1 a2) then (v, x, sX8_note_3 a3 (1 : Int32), sX8_note_4 a3 a4 (sX8_skipBlanks_1 a0 a1 a2)) else (if (3 : Int32) < (x - (sX8_skipBlanks_1 a0 a1 a2)) then (v, x, sX8_note_3 a3 (2 : Int32), sX8_note_4 a3 a4 (sX8_skipBlanks_1 a0 a1 a2)) else (if v < p0 then (v, x, sX8_note_3 a3 (2 : Int32), sX8_note_4 a3 a4 (sX8_skipBlanks_1 a0 a1 a2)) else (if v ≤ p1 then (v, x, a3, a4) else (v, x, sX8_note_3 a3 (2 : Int32), sX8_note_4 a3 a4 (sX8_skipBlanks_1 a0 a1 a2)))))) else (if (rX8_isFigure (rX8_letter a0 x a2)) = 0 then (if x = (sX8_skipBlanks_1 a0 a1 a2) then (v, x, sX8_note_3 a3 (1 : Int32), sX8_note_4 a3 a4 (sX8_skipBlanks_1 a0 a1 a2)) else (if (3 : Int32) < (x - (sX8_skipBlanks_1 a0 a1 a2)) then (v, x, sX8_note_3 a3 (2 : Int32), sX8_note_4 a3 a4 (sX8_skipBlanks_1 a0 a1 a2)) else (if v < p0 then (v, x, sX8_note_3 a3 (2 : Int32), sX8_note_4 a3 a4 (sX8_skipBlanks_1 a0 a1 a2)) else (if v ≤ p1 then (v, x, a3, a4) else (v, x, sX8_note_3 a3 (2 : Int32), sX8_note_4 a3 a4 (sX8_skipBlanks_1 a0 a1 a2)))))) else (if (3 : Int32) ≤ (x - (sX8_skipBlanks_1 a0 a1 a2)) then (aX8_readNumber_12 a0 a1 a2 a3 a4 p0 p1 n12 v (x + (1 : Int32))) else (aX8_readNumber_12 a0 a1 a2 a3 a4 p0 p1 n12 (((v * (10 : Int32)) + (rX8_letter a0 x a2)) - (48 : Int32)) (x + (1 : Int32)))))
def rX8_readNumber (a0 : Nat → Int32) (a1 a2 a3 a4 p0 p1 : Int32) : Int32 := (aX8_readNumber_12 a0 a1 a2 a3 a4 p0 p1 241 (0 : Int32) (sX8_skipBlanks_1 a0 a1 a2)).1
def sX8_readNumber_1 (a0 : Nat → Int32) (a1 a2 a3 a4 p0 p1 : Int32) : Int32 := (aX8_readNumber_12 a0 a1 a2 a3 a4 p0 p1 241 (0 : Int32) (sX8_skipBlanks_1 a0 a1 a2)).2.1
def sX8_readNumber_3 (a0 : Nat → Int32) (a1 a2 a3 a4 p0 p1 : Int32) : Int32 := (aX8_readNumber_12 a0 a1 a2 a3 a4 p0 p1 241 (0 : Int32) (sX8_skipBlanks_1 a0 a1 a2)).2.2.1
def sX8_readNumber_4 (a0 : Nat → Int32) (a1 a2 a3 a4 p0 p1 : Int32) : Int32 := (aX8_readNumber_12 a0 a1 a2 a3 a4 p0 p1 241 (0 : Int32) (sX8_skipBlanks_1 a0 a1 a2)).2.2.2
set_option maxRecDepth 100000 in
set_option maxHeartbeats 4000000 in
theorem c_X8_readNumber (l : Launch) (G : GT) (ad : Nat → Nat) (a0 : Nat → Int32) (a1 a2 a3 a4 p0 p1 : Int32) (hp : 0 ≤ a1) (hl : a2 ≤ 240) : Ci l G yX8_readNumber wsX8_readNumber (rmL 2) [.ref (ad 0), .int p0, .int p1] (wX8 G ad a0 a1 a2 a3 a4) (rX8_readNumber a0 a1 a2 a3 a4 p0 p1) (wX8 G ad a0 (sX8_readNumber_1 a0 a1 a2 a3 a4 p0 p1) a2 (sX8_readNumber_3 a0 a1 a2 a3 a4 p0 p1) (sX8_readNumber_4 a0 a1 a2 a3 a4 p0 p1)) := by
  refine ci_start .int (by decide) rfl rfl (Nat.le_of_ble_eq_true rfl) ?_
  intro p e s m args below meth c A X
  refine s_perm (lv2 := [(0, .ref (ad 0)), (1, .int p0), (2, .int p1)]) [0, 1, 2] rfl ?_
  refine s_aload_n X (pc := 0) (x := (ad 0)) 0 dX8_readNumber_0 rfl ?_
  refine s_callVv0 X (pc := 1) (w := wX8 G ad a0 a1 a2 a3 a4) (n := 0) (st := []) (As := []) (w2 := wX8 G ad a0 (sX8_skipBlanks_1 a0 a1 a2) a2 a3 a4) 1 (c_X8_skipBlanks l G ad a0 a1 a2 a3 a4 hp hl) gX8_readNumber_X8_skipBlanks rfl (by decide +kernel) ⟨Nat.le_of_ble_eq_true rfl, Nat.le_of_ble_eq_true rfl⟩ 0 rfl rfl rfl rfl (Nat.le_of_ble_eq_true rfl) (Nat.zero_le _) (Nat.zero_le _) dX8_readNumber_1 ?_
  refine s_aload_n X (pc := 4) (x := (ad 0)) 0 dX8_readNumber_4 rfl ?_
  refine s_get X (pc := 5) (v := .int (sX8_skipBlanks_1 a0 a1 a2)) iX8_readNumber_X8 0 rfl rfl 1 (by decide) kX8_readNumber_22 rfl rfl dX8_readNumber_5 ?_
  refine s_istore_n X (pc := 8) (i := 3) (lv2 := [(3, .int (sX8_skipBlanks_1 a0 a1 a2)), (0, .ref (ad 0)), (1, .int p0), (2, .int p1)]) dX8_readNumber_8 rfl (by decide) rfl ?_
  refine s_iconst X (pc := 9) (v := 0) dX8_readNumber_9 (by decide) ?_
  refine s_istore X (pc := 10) (i := 4) (lv2 := [(4, .int (0 : Int32)), (3, .int (sX8_skipBlanks_1 a0 a1 a2)), (0, .ref (ad 0)), (1, .int p0), (2, .int p1)]) dX8_readNumber_10 (by decide) rfl ?_
  refine s_perm (lv2 := [(0, .ref (ad 0)), (1, .int p0), (2, .int p1), (3, .int (sX8_skipBlanks_1 a0 a1 a2)), (4, .int (0 : Int32))]) [2, 3, 4, 1, 0] rfl ?_
  have L12 : ∀ (n12 : Nat) (v : Int32) (x : Int32), (0 ≤ x) → ((240 : Nat) - x.toInt).toNat < n12 → (rX8_readNumber a0 a1 a2 a3 a4 p0 p1, sX8_readNumber_1 a0 a1 a2 a3 a4 p0 p1, sX8_readNumber_3 a0 a1 a2 a3 a4 p0 p1, sX8_readNumber_4 a0 a1 a2 a3 a4 p0 p1) = aX8_readNumber_12 a0 a1 a2 a3 a4 p0 p1 n12 v x → Sm p l e (rmL 2) s m args below meth c G A 5 0 0 (Qci below G A args s (rX8_readNumber a0 a1 a2 a3 a4 p0 p1) (wX8 G ad a0 (sX8_readNumber_1 a0 a1 a2 a3 a4 p0 p1) a2 (sX8_readNumber_3 a0 a1 a2 a3 a4 p0 p1) (sX8_readNumber_4 a0 a1 a2 a3 a4 p0 p1))) 12 [(0, .ref (ad 0)), (1, .int p0), (2, .int p1), (3, .int (sX8_skipBlanks_1 a0 a1 a2)), (4, .int v)] [] (wX8 G ad a0 x a2 a3 a4) := by
    intro n12
    induction n12 with
    | zero => intro v x hx hm12 hv12; exact absurd hm12 (Nat.not_lt_zero _)
    | succ n12 ih12 =>
      intro v x hx hm12 hv12
      refine s_aload_n X (pc := 12) (x := (ad 0)) 0 dX8_readNumber_12 rfl ?_
      refine s_get X (pc := 13) (v := .int x) iX8_readNumber_X8 0 rfl rfl 1 (by decide) kX8_readNumber_22 rfl rfl dX8_readNumber_13 ?_
      refine s_aload_n X (pc := 16) (x := (ad 0)) 0 dX8_readNumber_16 rfl ?_
      refine s_get X (pc := 17) (v := .int a2) iX8_readNumber_X8 0 rfl rfl 2 (by decide) kX8_readNumber_19 rfl rfl dX8_readNumber_17 ?_
      refine s_icmp_ge X (pc := 20) (tgt := 71) dX8_readNumber_20 (by decide) (fun c20 => ?_) (fun c20 => ?_)
      ·
        refine s_aload_n X (pc := 71) (x := (ad 0)) 0 dX8_readNumber_71 rfl ?_
        refine s_get X (pc := 72) (v := .int x) iX8_readNumber_X8 0 rfl rfl 1 (by decide) kX8_readNumber_22 rfl rfl dX8_readNumber_72 ?_
        refine s_iload_n X (pc := 75) (x := sX8_skipBlanks_1 a0 a1 a2) 3 dX8_readNumber_75 rfl ?_
        refine s_icmp_ne X (pc := 76) (tgt := 88) dX8_readNumber_76 (by decide) (fun c76 => ?_) (fun c76 => ?_)
        ·
          refine s_aload_n X (pc := 88) (x := (ad 0)) 0 dX8_readNumber_88 rfl ?_
          refine s_get X (pc := 89) (v := .int x) iX8_readNumber_X8 0 rfl rfl 1 (by decide) kX8_readNumber_22 rfl rfl dX8_readNumber_89 ?_
          refine s_iload_n X (pc := 92) (x := sX8_skipBlanks_1 a0 a1 a2) 3 dX8_readNumber_92 rfl ?_
          refine s_isub X (pc := 93) dX8_readNumber_93 ?_
          refine s_iconst X (pc := 94) (v := 3) dX8_readNumber_94 (by decide) ?_
          refine s_icmp_gt X (pc := 95) (tgt := 110) dX8_readNumber_95 (by decide) (fun c95 => ?_) (fun c95 => ?_)
          ·
            refine s_aload_n X (pc := 110) (x := (ad 0)) 0 dX8_readNumber_110 rfl ?_
            refine s_iconst X (pc := 111) (v := 2) dX8_readNumber_111 (by decide) ?_
            refine s_iload_n X (pc := 112) (x := sX8_skipBlanks_1 a0 a1 a2) 3 dX8_readNumber_112 rfl ?_
            refine s_callVv0 X (pc := 113) (w := wX8 G ad a0 x a2 a3 a4) (n := 2) (st := []) (As := [.int (2 : Int32), .int (sX8_skipBlanks_1 a0 a1 a2)]) (w2 := wX8 G ad a0 x a2 (sX8_note_3 a3 (2 : Int32)) (sX8_note_4 a3 a4 (sX8_skipBlanks_1 a0 a1 a2))) 0 (c_X8_note l G ad a0 x a2 a3 a4 (2 : Int32) (sX8_skipBlanks_1 a0 a1 a2)) gX8_readNumber_X8_note rfl (by decide +kernel) ⟨Nat.le_of_ble_eq_true rfl, Nat.le_of_ble_eq_true rfl⟩ 0 rfl rfl rfl rfl (Nat.le_of_ble_eq_true rfl) (Nat.zero_le _) (Nat.zero_le _) dX8_readNumber_113 ?_
            refine s_iload X (pc := 116) (x := v) 4 dX8_readNumber_116 rfl ?_
            exact s_iret X (pc := 118) (v := v) dX8_readNumber_118 (Eq.symm (show rX8_readNumber a0 a1 a2 a3 a4 p0 p1 = v from (Prod.mk.inj (hv12.trans (show aX8_readNumber_12 a0 a1 a2 a3 a4 p0 p1 (n12 + 1) v x = (v, x, sX8_note_3 a3 (2 : Int32), sX8_note_4 a3 a4 (sX8_skipBlanks_1 a0 a1 a2)) from by rw [aX8_readNumber_12]; exact ((if_pos c20).trans ((if_neg c76).trans (if_pos c95)))))).1)) (by rw [show sX8_readNumber_1 a0 a1 a2 a3 a4 p0 p1 = x from ((Prod.mk.inj (Prod.mk.inj (hv12.trans (show aX8_readNumber_12 a0 a1 a2 a3 a4 p0 p1 (n12 + 1) v x = (v, x, sX8_note_3 a3 (2 : Int32), sX8_note_4 a3 a4 (sX8_skipBlanks_1 a0 a1 a2)) from by rw [aX8_readNumber_12]; exact ((if_pos c20).trans ((if_neg c76).trans (if_pos c95)))))).2).1), show sX8_readNumber_3 a0 a1 a2 a3 a4 p0 p1 = sX8_note_3 a3 (2 : Int32) from ((Prod.mk.inj (Prod.mk.inj (Prod.mk.inj (hv12.trans (show aX8_readNumber_12 a0 a1 a2 a3 a4 p0 p1 (n12 + 1) v x = (v, x, sX8_note_3 a3 (2 : Int32), sX8_note_4 a3 a4 (sX8_skipBlanks_1 a0 a1 a2)) from by rw [aX8_readNumber_12]; exact ((if_pos c20).trans ((if_neg c76).trans (if_pos c95)))))).2).2).1), show sX8_readNumber_4 a0 a1 a2 a3 a4 p0 p1 = sX8_note_4 a3 a4 (sX8_skipBlanks_1 a0 a1 a2) from ((Prod.mk.inj (Prod.mk.inj (Prod.mk.inj (hv12.trans (show aX8_readNumber_12 a0 a1 a2 a3 a4 p0 p1 (n12 + 1) v x = (v, x, sX8_note_3 a3 (2 : Int32), sX8_note_4 a3 a4 (sX8_skipBlanks_1 a0 a1 a2)) from by rw [aX8_readNumber_12]; exact ((if_pos c20).trans ((if_neg c76).trans (if_pos c95)))))).2).2).2)])
          ·
            refine s_iload X (pc := 98) (x := v) 4 dX8_readNumber_98 rfl ?_
            refine s_iload_n X (pc := 100) (x := p0) 1 dX8_readNumber_100 rfl ?_
            refine s_icmp_lt X (pc := 101) (tgt := 110) dX8_readNumber_101 (by decide) (fun c101 => ?_) (fun c101 => ?_)
            ·
              refine s_aload_n X (pc := 110) (x := (ad 0)) 0 dX8_readNumber_110 rfl ?_
              refine s_iconst X (pc := 111) (v := 2) dX8_readNumber_111 (by decide) ?_
              refine s_iload_n X (pc := 112) (x := sX8_skipBlanks_1 a0 a1 a2) 3 dX8_readNumber_112 rfl ?_
              refine s_callVv0 X (pc := 113) (w := wX8 G ad a0 x a2 a3 a4) (n := 2) (st := []) (As := [.int (2 : Int32), .int (sX8_skipBlanks_1 a0 a1 a2)]) (w2 := wX8 G ad a0 x a2 (sX8_note_3 a3 (2 : Int32)) (sX8_note_4 a3 a4 (sX8_skipBlanks_1 a0 a1 a2))) 0 (c_X8_note l G ad a0 x a2 a3 a4 (2 : Int32) (sX8_skipBlanks_1 a0 a1 a2)) gX8_readNumber_X8_note rfl (by decide +kernel) ⟨Nat.le_of_ble_eq_true rfl, Nat.le_of_ble_eq_true rfl⟩ 0 rfl rfl rfl rfl (Nat.le_of_ble_eq_true rfl) (Nat.zero_le _) (Nat.zero_le _) dX8_readNumber_113 ?_
              refine s_iload X (pc := 116) (x := v) 4 dX8_readNumber_116 rfl ?_
              exact s_iret X (pc := 118) (v := v) dX8_readNumber_118 (Eq.symm (show rX8_readNumber a0 a1 a2 a3 a4 p0 p1 = v from (Prod.mk.inj (hv12.trans (show aX8_readNumber_12 a0 a1 a2 a3 a4 p0 p1 (n12 + 1) v x = (v, x, sX8_note_3 a3 (2 : Int32), sX8_note_4 a3 a4 (sX8_skipBlanks_1 a0 a1 a2)) from by rw [aX8_readNumber_12]; exact ((if_pos c20).trans ((if_neg c76).trans ((if_neg c95).trans (if_pos c101))))))).1)) (by rw [show sX8_readNumber_1 a0 a1 a2 a3 a4 p0 p1 = x from ((Prod.mk.inj (Prod.mk.inj (hv12.trans (show aX8_readNumber_12 a0 a1 a2 a3 a4 p0 p1 (n12 + 1) v x = (v, x, sX8_note_3 a3 (2 : Int32), sX8_note_4 a3 a4 (sX8_skipBlanks_1 a0 a1 a2)) from by rw [aX8_readNumber_12]; exact ((if_pos c20).trans ((if_neg c76).trans ((if_neg c95).trans (if_pos c101))))))).2).1), show sX8_readNumber_3 a0 a1 a2 a3 a4 p0 p1 = sX8_note_3 a3 (2 : Int32) from ((Prod.mk.inj (Prod.mk.inj (Prod.mk.inj (hv12.trans (show aX8_readNumber_12 a0 a1 a2 a3 a4 p0 p1 (n12 + 1) v x = (v, x, sX8_note_3 a3 (2 : Int32), sX8_note_4 a3 a4 (sX8_skipBlanks_1 a0 a1 a2)) from by rw [aX8_readNumber_12]; exact ((if_pos c20).trans ((if_neg c76).trans ((if_neg c95).trans (if_pos c101))))))).2).2).1), show sX8_readNumber_4 a0 a1 a2 a3 a4 p0 p1 = sX8_note_4 a3 a4 (sX8_skipBlanks_1 a0 a1 a2) from ((Prod.mk.inj (Prod.mk.inj (Prod.mk.inj (hv12.trans (show aX8_readNumber_12 a0 a1 a2 a3 a4 p0 p1 (n12 + 1) v x = (v, x, sX8_note_3 a3 (2 : Int32), sX8_note_4 a3 a4 (sX8_skipBlanks_1 a0 a1 a2)) from by rw [aX8_readNumber_12]; exact ((if_pos c20).trans ((if_neg c76).trans ((if_neg c95).trans (if_pos c101))))))).2).2).2)])
            ·
              refine s_iload X (pc := 104) (x := v) 4 dX8_readNumber_104 rfl ?_
              refine s_iload_n X (pc := 106) (x := p1) 2 dX8_readNumber_106 rfl ?_
              refine s_icmp_le X (pc := 107) (tgt := 116) dX8_readNumber_107 (by decide) (fun c107 => ?_) (fun c107 => ?_)
              ·
                refine s_iload X (pc := 116) (x := v) 4 dX8_readNumber_116 rfl ?_
                exact s_iret X (pc := 118) (v := v) dX8_readNumber_118 (Eq.symm (show rX8_readNumber a0 a1 a2 a3 a4 p0 p1 = v from (Prod.mk.inj (hv12.trans (show aX8_readNumber_12 a0 a1 a2 a3 a4 p0 p1 (n12 + 1) v x = (v, x, a3, a4) from by rw [aX8_readNumber_12]; exact ((if_pos c20).trans ((if_neg c76).trans ((if_neg c95).trans ((if_neg c101).trans (if_pos c107)))))))).1)) (by rw [show sX8_readNumber_1 a0 a1 a2 a3 a4 p0 p1 = x from ((Prod.mk.inj (Prod.mk.inj (hv12.trans (show aX8_readNumber_12 a0 a1 a2 a3 a4 p0 p1 (n12 + 1) v x = (v, x, a3, a4) from by rw [aX8_readNumber_12]; exact ((if_pos c20).trans ((if_neg c76).trans ((if_neg c95).trans ((if_neg c101).trans (if_pos c107)))))))).2).1), show sX8_readNumber_3 a0 a1 a2 a3 a4 p0 p1 = a3 from ((Prod.mk.inj (Prod.mk.inj (Prod.mk.inj (hv12.trans (show aX8_readNumber_12 a0 a1 a2 a3 a4 p0 p1 (n12 + 1) v x = (v, x, a3, a4) from by rw [aX8_readNumber_12]; exact ((if_pos c20).trans ((if_neg c76).trans ((if_neg c95).trans ((if_neg c101).trans (if_pos c107)))))))).2).2).1), show sX8_readNumber_4 a0 a1 a2 a3 a4 p0 p1 = a4 from ((Prod.mk.inj (Prod.mk.inj (Prod.mk.inj (hv12.trans (show aX8_readNumber_12 a0 a1 a2 a3 a4 p0 p1 (n12 + 1) v x = (v, x, a3, a4) from by rw [aX8_readNumber_12]; exact ((if_pos c20).trans ((if_neg c76).trans ((if_neg c95).trans ((if_neg c101).trans (if_pos c107)))))))).2).2).2)])
              ·
                refine s_aload_n X (pc := 110) (x := (ad 0)) 0 dX8_readNumber_110 rfl ?_
                refine s_iconst X (pc := 111) (v := 2) dX8_readNumber_111 (by decide) ?_
                refine s_iload_n X (pc := 112) (x := sX8_skipBlanks_1 a0 a1 a2) 3 dX8_readNumber_112 rfl ?_
                refine s_callVv0 X (pc := 113) (w := wX8 G ad a0 x a2 a3 a4) (n := 2) (st := []) (As := [.int (2 : Int32), .int (sX8_skipBlanks_1 a0 a1 a2)]) (w2 := wX8 G ad a0 x a2 (sX8_note_3 a3 (2 : Int32)) (sX8_note_4 a3 a4 (sX8_skipBlanks_1 a0 a1 a2))) 0 (c_X8_note l G ad a0 x a2 a3 a4 (2 : Int32) (sX8_skipBlanks_1 a0 a1 a2)) gX8_readNumber_X8_note rfl (by decide +kernel) ⟨Nat.le_of_ble_eq_true rfl, Nat.le_of_ble_eq_true rfl⟩ 0 rfl rfl rfl rfl (Nat.le_of_ble_eq_true rfl) (Nat.zero_le _) (Nat.zero_le _) dX8_readNumber_113 ?_
                refine s_iload X (pc := 116) (x := v) 4 dX8_readNumber_116 rfl ?_
                exact s_iret X (pc := 118) (v := v) dX8_readNumber_118 (Eq.symm (show rX8_readNumber a0 a1 a2 a3 a4 p0 p1 = v from (Prod.mk.inj (hv12.trans (show aX8_readNumber_12 a0 a1 a2 a3 a4 p0 p1 (n12 + 1) v x = (v, x, sX8_note_3 a3 (2 : Int32), sX8_note_4 a3 a4 (sX8_skipBlanks_1 a0 a1 a2)) from by rw [aX8_readNumber_12]; exact ((if_pos c20).trans ((if_neg c76).trans ((if_neg c95).trans ((if_neg c101).trans (if_neg c107)))))))).1)) (by rw [show sX8_readNumber_1 a0 a1 a2 a3 a4 p0 p1 = x from ((Prod.mk.inj (Prod.mk.inj (hv12.trans (show aX8_readNumber_12 a0 a1 a2 a3 a4 p0 p1 (n12 + 1) v x = (v, x, sX8_note_3 a3 (2 : Int32), sX8_note_4 a3 a4 (sX8_skipBlanks_1 a0 a1 a2)) from by rw [aX8_readNumber_12]; exact ((if_pos c20).trans ((if_neg c76).trans ((if_neg c95).trans ((if_neg c101).trans (if_neg c107)))))))).2).1), show sX8_readNumber_3 a0 a1 a2 a3 a4 p0 p1 = sX8_note_3 a3 (2 : Int32) from ((Prod.mk.inj (Prod.mk.inj (Prod.mk.inj (hv12.trans (show aX8_readNumber_12 a0 a1 a2 a3 a4 p0 p1 (n12 + 1) v x = (v, x, sX8_note_3 a3 (2 : Int32), sX8_note_4 a3 a4 (sX8_skipBlanks_1 a0 a1 a2)) from by rw [aX8_readNumber_12]; exact ((if_pos c20).trans ((if_neg c76).trans ((if_neg c95).trans ((if_neg c101).trans (if_neg c107)))))))).2).2).1), show sX8_readNumber_4 a0 a1 a2 a3 a4 p0 p1 = sX8_note_4 a3 a4 (sX8_skipBlanks_1 a0 a1 a2) from ((Prod.mk.inj (Prod.mk.inj (Prod.mk.inj (hv12.trans (show aX8_readNumber_12 a0 a1 a2 a3 a4 p0 p1 (n12 + 1) v x = (v, x, sX8_note_3 a3 (2 : Int32), sX8_note_4 a3 a4 (sX8_skipBlanks_1 a0 a1 a2)) from by rw [aX8_readNumber_12]; exact ((if_pos c20).trans ((if_neg c76).trans ((if_neg c95).trans ((if_neg c101).trans (if_neg c107)))))))).2).2).2)])
        ·
          refine s_aload_n X (pc := 79) (x := (ad 0)) 0 dX8_readNumber_79 rfl ?_
          refine s_iconst X (pc := 80) (v := 1) dX8_readNumber_80 (by decide) ?_
          refine s_iload_n X (pc := 81) (x := sX8_skipBlanks_1 a0 a1 a2) 3 dX8_readNumber_81 rfl ?_
          refine s_callVv0 X (pc := 82) (w := wX8 G ad a0 x a2 a3 a4) (n := 2) (st := []) (As := [.int (1 : Int32), .int (sX8_skipBlanks_1 a0 a1 a2)]) (w2 := wX8 G ad a0 x a2 (sX8_note_3 a3 (1 : Int32)) (sX8_note_4 a3 a4 (sX8_skipBlanks_1 a0 a1 a2))) 0 (c_X8_note l G ad a0 x a2 a3 a4 (1 : Int32) (sX8_skipBlanks_1 a0 a1 a2)) gX8_readNumber_X8_note rfl (by decide +kernel) ⟨Nat.le_of_ble_eq_true rfl, Nat.le_of_ble_eq_true rfl⟩ 0 rfl rfl rfl rfl (Nat.le_of_ble_eq_true rfl) (Nat.zero_le _) (Nat.zero_le _) dX8_readNumber_82 ?_
          refine s_goto X (pc := 85) (tgt := 116) dX8_readNumber_85 (by decide) ?_
          refine s_iload X (pc := 116) (x := v) 4 dX8_readNumber_116 rfl ?_
          exact s_iret X (pc := 118) (v := v) dX8_readNumber_118 (Eq.symm (show rX8_readNumber a0 a1 a2 a3 a4 p0 p1 = v from (Prod.mk.inj (hv12.trans (show aX8_readNumber_12 a0 a1 a2 a3 a4 p0 p1 (n12 + 1) v x = (v, x, sX8_note_3 a3 (1 : Int32), sX8_note_4 a3 a4 (sX8_skipBlanks_1 a0 a1 a2)) from by rw [aX8_readNumber_12]; exact ((if_pos c20).trans (if_pos c76))))).1)) (by rw [show sX8_readNumber_1 a0 a1 a2 a3 a4 p0 p1 = x from ((Prod.mk.inj (Prod.mk.inj (hv12.trans (show aX8_readNumber_12 a0 a1 a2 a3 a4 p0 p1 (n12 + 1) v x = (v, x, sX8_note_3 a3 (1 : Int32), sX8_note_4 a3 a4 (sX8_skipBlanks_1 a0 a1 a2)) from by rw [aX8_readNumber_12]; exact ((if_pos c20).trans (if_pos c76))))).2).1), show sX8_readNumber_3 a0 a1 a2 a3 a4 p0 p1 = sX8_note_3 a3 (1 : Int32) from ((Prod.mk.inj (Prod.mk.inj (Prod.mk.inj (hv12.trans (show aX8_readNumber_12 a0 a1 a2 a3 a4 p0 p1 (n12 + 1) v x = (v, x, sX8_note_3 a3 (1 : Int32), sX8_note_4 a3 a4 (sX8_skipBlanks_1 a0 a1 a2)) from by rw [aX8_readNumber_12]; exact ((if_pos c20).trans (if_pos c76))))).2).2).1), show sX8_readNumber_4 a0 a1 a2 a3 a4 p0 p1 = sX8_note_4 a3 a4 (sX8_skipBlanks_1 a0 a1 a2) from ((Prod.mk.inj (Prod.mk.inj (Prod.mk.inj (hv12.trans (show aX8_readNumber_12 a0 a1 a2 a3 a4 p0 p1 (n12 + 1) v x = (v, x, sX8_note_3 a3 (1 : Int32), sX8_note_4 a3 a4 (sX8_skipBlanks_1 a0 a1 a2)) from by rw [aX8_readNumber_12]; exact ((if_pos c20).trans (if_pos c76))))).2).2).2)])
      ·
        refine s_aload_n X (pc := 23) (x := (ad 0)) 0 dX8_readNumber_23 rfl ?_
        refine s_callVi0 X (pc := 24) (r := rX8_letter a0 x a2) (w := wX8 G ad a0 x a2 a3 a4) (n := 0) (st := []) (As := []) (w2 := wX8 G ad a0 x a2 a3 a4) 0 (c_X8_letter l G ad a0 x a2 a3 a4) gX8_readNumber_X8_letter rfl (by decide +kernel) ⟨Nat.le_of_ble_eq_true rfl, Nat.le_of_ble_eq_true rfl⟩ 0 rfl rfl rfl rfl (Nat.le_of_ble_eq_true rfl) (Nat.zero_le _) (Nat.zero_le _) dX8_readNumber_24 ?_
        refine s_callSiN X (pc := 27) (r := rX8_isFigure (rX8_letter a0 x a2)) (n := 1) (st := []) (As := [.int (rX8_letter a0 x a2)]) 0 (c_X8_isFigure l G (rX8_letter a0 x a2)) gX8_readNumber_X8_isFigure rfl (by decide +kernel) ⟨Nat.le_of_ble_eq_true rfl, Nat.le_of_ble_eq_true rfl⟩ rfl rfl (Nat.le_of_ble_eq_true rfl) (Nat.zero_le _) (Nat.zero_le _) dX8_readNumber_27 ?_
        refine s_if_eq X (pc := 30) (tgt := 71) dX8_readNumber_30 (by decide) (fun c30 => ?_) (fun c30 => ?_)
        ·
          refine s_aload_n X (pc := 71) (x := (ad 0)) 0 dX8_readNumber_71 rfl ?_
          refine s_get X (pc := 72) (v := .int x) iX8_readNumber_X8 0 rfl rfl 1 (by decide) kX8_readNumber_22 rfl rfl dX8_readNumber_72 ?_
          refine s_iload_n X (pc := 75) (x := sX8_skipBlanks_1 a0 a1 a2) 3 dX8_readNumber_75 rfl ?_
          refine s_icmp_ne X (pc := 76) (tgt := 88) dX8_readNumber_76 (by decide) (fun c76 => ?_) (fun c76 => ?_)
          ·
            refine s_aload_n X (pc := 88) (x := (ad 0)) 0 dX8_readNumber_88 rfl ?_
            refine s_get X (pc := 89) (v := .int x) iX8_readNumber_X8 0 rfl rfl 1 (by decide) kX8_readNumber_22 rfl rfl dX8_readNumber_89 ?_
            refine s_iload_n X (pc := 92) (x := sX8_skipBlanks_1 a0 a1 a2) 3 dX8_readNumber_92 rfl ?_
            refine s_isub X (pc := 93) dX8_readNumber_93 ?_
            refine s_iconst X (pc := 94) (v := 3) dX8_readNumber_94 (by decide) ?_
            refine s_icmp_gt X (pc := 95) (tgt := 110) dX8_readNumber_95 (by decide) (fun c95 => ?_) (fun c95 => ?_)
            ·
              refine s_aload_n X (pc := 110) (x := (ad 0)) 0 dX8_readNumber_110 rfl ?_
              refine s_iconst X (pc := 111) (v := 2) dX8_readNumber_111 (by decide) ?_
              refine s_iload_n X (pc := 112) (x := sX8_skipBlanks_1 a0 a1 a2) 3 dX8_readNumber_112 rfl ?_
              refine s_callVv0 X (pc := 113) (w := wX8 G ad a0 x a2 a3 a4) (n := 2) (st := []) (As := [.int (2 : Int32), .int (sX8_skipBlanks_1 a0 a1 a2)]) (w2 := wX8 G ad a0 x a2 (sX8_note_3 a3 (2 : Int32)) (sX8_note_4 a3 a4 (sX8_skipBlanks_1 a0 a1 a2))) 0 (c_X8_note l G ad a0 x a2 a3 a4 (2 : Int32) (sX8_skipBlanks_1 a0 a1 a2)) gX8_readNumber_X8_note rfl (by decide +kernel) ⟨Nat.le_of_ble_eq_true rfl, Nat.le_of_ble_eq_true rfl⟩ 0 rfl rfl rfl rfl (Nat.le_of_ble_eq_true rfl) (Nat.zero_le _) (Nat.zero_le _) dX8_readNumber_113 ?_
              refine s_iload X (pc := 116) (x := v) 4 dX8_readNumber_116 rfl ?_
              exact s_iret X (pc := 118) (v := v) dX8_readNumber_118 (Eq.symm (show rX8_readNumber a0 a1 a2 a3 a4 p0 p1 = v from (Prod.mk.inj (hv12.trans (show aX8_readNumber_12 a0 a1 a2 a3 a4 p0 p1 (n12 + 1) v x = (v, x, sX8_note_3 a3 (2 : Int32), sX8_note_4 a3 a4 (sX8_skipBlanks_1 a0 a1 a2)) from by rw [aX8_readNumber_12]; exact ((if_neg c20).trans ((if_pos c30).trans ((if_neg c76).trans (if_pos c95))))))).1)) (by rw [show sX8_readNumber_1 a0 a1 a2 a3 a4 p0 p1 = x from ((Prod.mk.inj (Prod.mk.inj (hv12.trans (show aX8_readNumber_12 a0 a1 a2 a3 a4 p0 p1 (n12 + 1) v x = (v, x, sX8_note_3 a3 (2 : Int32), sX8_note_4 a3 a4 (sX8_skipBlanks_1 a0 a1 a2)) from by rw [aX8_readNumber_12]; exact ((if_neg c20).trans ((if_pos c30).trans ((if_neg c76).trans (if_pos c95))))))).2).1), show sX8_readNumber_3 a0 a1 a2 a3 a4 p0 p1 = sX8_note_3 a3 (2 : Int32) from ((Prod.mk.inj (Prod.mk.inj (Prod.mk.inj (hv12.trans (show aX8_readNumber_12 a0 a1 a2 a3 a4 p0 p1 (n12 + 1) v x = (v, x, sX8_note_3 a3 (2 : Int32), sX8_note_4 a3 a4 (sX8_skipBlanks_1 a0 a1 a2)) from by rw [aX8_readNumber_12]; exact ((if_neg c20).trans ((if_pos c30).trans ((if_neg c76).trans (if_pos c95))))))).2).2).1), show sX8_readNumber_4 a0 a1 a2 a3 a4 p0 p1 = sX8_note_4 a3 a4 (sX8_skipBlanks_1 a0 a1 a2) from ((Prod.mk.inj (Prod.mk.inj (Prod.mk.inj (hv12.trans (show aX8_readNumber_12 a0 a1 a2 a3 a4 p0 p1 (n12 + 1) v x = (v, x, sX8_note_3 a3 (2 : Int32), sX8_note_4 a3 a4 (sX8_skipBlanks_1 a0 a1 a2)) from by rw [aX8_readNumber_12]; exact ((if_neg c20).trans ((if_pos c30).trans ((if_neg c76).trans (if_pos c95))))))).2).2).2)])
            ·
              refine s_iload X (pc := 98) (x := v) 4 dX8_readNumber_98 rfl ?_
              refine s_iload_n X (pc := 100) (x := p0) 1 dX8_readNumber_100 rfl ?_
              refine s_icmp_lt X (pc := 101) (tgt := 110) dX8_readNumber_101 (by decide) (fun c101 => ?_) (fun c101 => ?_)
              ·
                refine s_aload_n X (pc := 110) (x := (ad 0)) 0 dX8_readNumber_110 rfl ?_
                refine s_iconst X (pc := 111) (v := 2) dX8_readNumber_111 (by decide) ?_
                refine s_iload_n X (pc := 112) (x := sX8_skipBlanks_1 a0 a1 a2) 3 dX8_readNumber_112 rfl ?_
                refine s_callVv0 X (pc := 113) (w := wX8 G ad a0 x a2 a3 a4) (n := 2) (st := []) (As := [.int (2 : Int32), .int (sX8_skipBlanks_1 a0 a1 a2)]) (w2 := wX8 G ad a0 x a2 (sX8_note_3 a3 (2 : Int32)) (sX8_note_4 a3 a4 (sX8_skipBlanks_1 a0 a1 a2))) 0 (c_X8_note l G ad a0 x a2 a3 a4 (2 : Int32) (sX8_skipBlanks_1 a0 a1 a2)) gX8_readNumber_X8_note rfl (by decide +kernel) ⟨Nat.le_of_ble_eq_true rfl, Nat.le_of_ble_eq_true rfl⟩ 0 rfl rfl rfl rfl (Nat.le_of_ble_eq_true rfl) (Nat.zero_le _) (Nat.zero_le _) dX8_readNumber_113 ?_
                refine s_iload X (pc := 116) (x := v) 4 dX8_readNumber_116 rfl ?_
                exact s_iret X (pc := 118) (v := v) dX8_readNumber_118 (Eq.symm (show rX8_readNumber a0 a1 a2 a3 a4 p0 p1 = v from (Prod.mk.inj (hv12.trans (show aX8_readNumber_12 a0 a1 a2 a3 a4 p0 p1 (n12 + 1) v x = (v, x, sX8_note_3 a3 (2 : Int32), sX8_note_4 a3 a4 (sX8_skipBlanks_1 a0 a1 a2)) from by rw [aX8_readNumber_12]; exact ((if_neg c20).trans ((if_pos c30).trans ((if_neg c76).trans ((if_neg c95).trans (if_pos c101)))))))).1)) (by rw [show sX8_readNumber_1 a0 a1 a2 a3 a4 p0 p1 = x from ((Prod.mk.inj (Prod.mk.inj (hv12.trans (show aX8_readNumber_12 a0 a1 a2 a3 a4 p0 p1 (n12 + 1) v x = (v, x, sX8_note_3 a3 (2 : Int32), sX8_note_4 a3 a4 (sX8_skipBlanks_1 a0 a1 a2)) from by rw [aX8_readNumber_12]; exact ((if_neg c20).trans ((if_pos c30).trans ((if_neg c76).trans ((if_neg c95).trans (if_pos c101)))))))).2).1), show sX8_readNumber_3 a0 a1 a2 a3 a4 p0 p1 = sX8_note_3 a3 (2 : Int32) from ((Prod.mk.inj (Prod.mk.inj (Prod.mk.inj (hv12.trans (show aX8_readNumber_12 a0 a1 a2 a3 a4 p0 p1 (n12 + 1) v x = (v, x, sX8_note_3 a3 (2 : Int32), sX8_note_4 a3 a4 (sX8_skipBlanks_1 a0 a1 a2)) from by rw [aX8_readNumber_12]; exact ((if_neg c20).trans ((if_pos c30).trans ((if_neg c76).trans ((if_neg c95).trans (if_pos c101)))))))).2).2).1), show sX8_readNumber_4 a0 a1 a2 a3 a4 p0 p1 = sX8_note_4 a3 a4 (sX8_skipBlanks_1 a0 a1 a2) from ((Prod.mk.inj (Prod.mk.inj (Prod.mk.inj (hv12.trans (show aX8_readNumber_12 a0 a1 a2 a3 a4 p0 p1 (n12 + 1) v x = (v, x, sX8_note_3 a3 (2 : Int32), sX8_note_4 a3 a4 (sX8_skipBlanks_1 a0 a1 a2)) from by rw [aX8_readNumber_12]; exact ((if_neg c20).trans ((if_pos c30).trans ((if_neg c76).trans ((if_neg c95).trans (if_pos c101)))))))).2).2).2)])
              ·
                refine s_iload X (pc := 104) (x := v) 4 dX8_readNumber_104 rfl ?_
                refine s_iload_n X (pc := 106) (x := p1) 2 dX8_readNumber_106 rfl ?_
                refine s_icmp_le X (pc := 107) (tgt := 116) dX8_readNumber_107 (by decide) (fun c107 => ?_) (fun c107 => ?_)
                ·
                  refine s_iload X (pc := 116) (x := v) 4 dX8_readNumber_116 rfl ?_
                  exact s_iret X (pc := 118) (v := v) dX8_readNumber_118 (Eq.symm (show rX8_readNumber a0 a1 a2 a3 a4 p0 p1 = v from (Prod.mk.inj (hv12.trans (show aX8_readNumber_12 a0 a1 a2 a3 a4 p0 p1 (n12 + 1) v x = (v, x, a3, a4) from by rw [aX8_readNumber_12]; exact ((if_neg c20).trans ((if_pos c30).trans ((if_neg c76).trans ((if_neg c95).trans ((if_neg c101).trans (if_pos c107))))))))).1)) (by rw [show sX8_readNumber_1 a0 a1 a2 a3 a4 p0 p1 = x from ((Prod.mk.inj (Prod.mk.inj (hv12.trans (show aX8_readNumber_12 a0 a1 a2 a3 a4 p0 p1 (n12 + 1) v x = (v, x, a3, a4) from by rw [aX8_readNumber_12]; exact ((if_neg c20).trans ((if_pos c30).trans ((if_neg c76).trans ((if_neg c95).trans ((if_neg c101).trans (if_pos c107))))))))).2).1), show sX8_readNumber_3 a0 a1 a2 a3 a4 p0 p1 = a3 from ((Prod.mk.inj (Prod.mk.inj (Prod.mk.inj (hv12.trans (show aX8_readNumber_12 a0 a1 a2 a3 a4 p0 p1 (n12 + 1) v x = (v, x, a3, a4) from by rw [aX8_readNumber_12]; exact ((if_neg c20).trans ((if_pos c30).trans ((if_neg c76).trans ((if_neg c95).trans ((if_neg c101).trans (if_pos c107))))))))).2).2).1), show sX8_readNumber_4 a0 a1 a2 a3 a4 p0 p1 = a4 from ((Prod.mk.inj (Prod.mk.inj (Prod.mk.inj (hv12.trans (show aX8_readNumber_12 a0 a1 a2 a3 a4 p0 p1 (n12 + 1) v x = (v, x, a3, a4) from by rw [aX8_readNumber_12]; exact ((if_neg c20).trans ((if_pos c30).trans ((if_neg c76).trans ((if_neg c95).trans ((if_neg c101).trans (if_pos c107))))))))).2).2).2)])
                ·
                  refine s_aload_n X (pc := 110) (x := (ad 0)) 0 dX8_readNumber_110 rfl ?_
                  refine s_iconst X (pc := 111) (v := 2) dX8_readNumber_111 (by decide) ?_
                  refine s_iload_n X (pc := 112) (x := sX8_skipBlanks_1 a0 a1 a2) 3 dX8_readNumber_112 rfl ?_
                  refine s_callVv0 X (pc := 113) (w := wX8 G ad a0 x a2 a3 a4) (n := 2) (st := []) (As := [.int (2 : Int32), .int (sX8_skipBlanks_1 a0 a1 a2)]) (w2 := wX8 G ad a0 x a2 (sX8_note_3 a3 (2 : Int32)) (sX8_note_4 a3 a4 (sX8_skipBlanks_1 a0 a1 a2))) 0 (c_X8_note l G ad a0 x a2 a3 a4 (2 : Int32) (sX8_skipBlanks_1 a0 a1 a2)) gX8_readNumber_X8_note rfl (by decide +kernel) ⟨Nat.le_of_ble_eq_true rfl, Nat.le_of_ble_eq_true rfl⟩ 0 rfl rfl rfl rfl (Nat.le_of_ble_eq_true rfl) (Nat.zero_le _) (Nat.zero_le _) dX8_readNumber_113 ?_
                  refine s_iload X (pc := 116) (x := v) 4 dX8_readNumber_116 rfl ?_
                  exact s_iret X (pc := 118) (v := v) dX8_readNumber_118 (Eq.symm (show rX8_readNumber a0 a1 a2 a3 a4 p0 p1 = v from (Prod.mk.inj (hv12.trans (show aX8_readNumber_12 a0 a1 a2 a3 a4 p0 p1 (n12 + 1) v x = (v, x, sX8_note_3 a3 (2 : Int32), sX8_note_4 a3 a4 (sX8_skipBlanks_1 a0 a1 a2)) from by rw [aX8_readNumber_12]; exact ((if_neg c20).trans ((if_pos c30).trans ((if_neg c76).trans ((if_neg c95).trans ((if_neg c101).trans (if_neg c107))))))))).1)) (by rw [show sX8_readNumber_1 a0 a1 a2 a3 a4 p0 p1 = x from ((Prod.mk.inj (Prod.mk.inj (hv12.trans (show aX8_readNumber_12 a0 a1 a2 a3 a4 p0 p1 (n12 + 1) v x = (v, x, sX8_note_3 a3 (2 : Int32), sX8_note_4 a3 a4 (sX8_skipBlanks_1 a0 a1 a2)) from by rw [aX8_readNumber_12]; exact ((if_neg c20).trans ((if_pos c30).trans ((if_neg c76).trans ((if_neg c95).trans ((if_neg c101).trans (if_neg c107))))))))).2).1), show sX8_readNumber_3 a0 a1 a2 a3 a4 p0 p1 = sX8_note_3 a3 (2 : Int32) from ((Prod.mk.inj (Prod.mk.inj (Prod.mk.inj (hv12.trans (show aX8_readNumber_12 a0 a1 a2 a3 a4 p0 p1 (n12 + 1) v x = (v, x, sX8_note_3 a3 (2 : Int32), sX8_note_4 a3 a4 (sX8_skipBlanks_1 a0 a1 a2)) from by rw [aX8_readNumber_12]; exact ((if_neg c20).trans ((if_pos c30).trans ((if_neg c76).trans ((if_neg c95).trans ((if_neg c101).trans (if_neg c107))))))))).2).2).1), show sX8_readNumber_4 a0 a1 a2 a3 a4 p0 p1 = sX8_note_4 a3 a4 (sX8_skipBlanks_1 a0 a1 a2) from ((Prod.mk.inj (Prod.mk.inj (Prod.mk.inj (hv12.trans (show aX8_readNumber_12 a0 a1 a2 a3 a4 p0 p1 (n12 + 1) v x = (v, x, sX8_note_3 a3 (2 : Int32), sX8_note_4 a3 a4 (sX8_skipBlanks_1 a0 a1 a2)) from by rw [aX8_readNumber_12]; exact ((if_neg c20).trans ((if_pos c30).trans ((if_neg c76).trans ((if_neg c95).trans ((if_neg c101).trans (if_neg c107))))))))).2).2).2)])
          ·
            refine s_aload_n X (pc := 79) (x := (ad 0)) 0 dX8_readNumber_79 rfl ?_
            refine s_iconst X (pc := 80) (v := 1) dX8_readNumber_80 (by decide) ?_
            refine s_iload_n X (pc := 81) (x := sX8_skipBlanks_1 a0 a1 a2) 3 dX8_readNumber_81 rfl ?_
            refine s_callVv0 X (pc := 82) (w := wX8 G ad a0 x a2 a3 a4) (n := 2) (st := []) (As := [.int (1 : Int32), .int (sX8_skipBlanks_1 a0 a1 a2)]) (w2 := wX8 G ad a0 x a2 (sX8_note_3 a3 (1 : Int32)) (sX8_note_4 a3 a4 (sX8_skipBlanks_1 a0 a1 a2))) 0 (c_X8_note l G ad a0 x a2 a3 a4 (1 : Int32) (sX8_skipBlanks_1 a0 a1 a2)) gX8_readNumber_X8_note rfl (by decide +kernel) ⟨Nat.le_of_ble_eq_true rfl, Nat.le_of_ble_eq_true rfl⟩ 0 rfl rfl rfl rfl (Nat.le_of_ble_eq_true rfl) (Nat.zero_le _) (Nat.zero_le _) dX8_readNumber_82 ?_
            refine s_goto X (pc := 85) (tgt := 116) dX8_readNumber_85 (by decide) ?_
            refine s_iload X (pc := 116) (x := v) 4 dX8_readNumber_116 rfl ?_
            exact s_iret X (pc := 118) (v := v) dX8_readNumber_118 (Eq.symm (show rX8_readNumber a0 a1 a2 a3 a4 p0 p1 = v from (Prod.mk.inj (hv12.trans (show aX8_readNumber_12 a0 a1 a2 a3 a4 p0 p1 (n12 + 1) v x = (v, x, sX8_note_3 a3 (1 : Int32), sX8_note_4 a3 a4 (sX8_skipBlanks_1 a0 a1 a2)) from by rw [aX8_readNumber_12]; exact ((if_neg c20).trans ((if_pos c30).trans (if_pos c76)))))).1)) (by rw [show sX8_readNumber_1 a0 a1 a2 a3 a4 p0 p1 = x from ((Prod.mk.inj (Prod.mk.inj (hv12.trans (show aX8_readNumber_12 a0 a1 a2 a3 a4 p0 p1 (n12 + 1) v x = (v, x, sX8_note_3 a3 (1 : Int32), sX8_note_4 a3 a4 (sX8_skipBlanks_1 a0 a1 a2)) from by rw [aX8_readNumber_12]; exact ((if_neg c20).trans ((if_pos c30).trans (if_pos c76)))))).2).1), show sX8_readNumber_3 a0 a1 a2 a3 a4 p0 p1 = sX8_note_3 a3 (1 : Int32) from ((Prod.mk.inj (Prod.mk.inj (Prod.mk.inj (hv12.trans (show aX8_readNumber_12 a0 a1 a2 a3 a4 p0 p1 (n12 + 1) v x = (v, x, sX8_note_3 a3 (1 : Int32), sX8_note_4 a3 a4 (sX8_skipBlanks_1 a0 a1 a2)) from by rw [aX8_readNumber_12]; exact ((if_neg c20).trans ((if_pos c30).trans (if_pos c76)))))).2).2).1), show sX8_readNumber_4 a0 a1 a2 a3 a4 p0 p1 = sX8_note_4 a3 a4 (sX8_skipBlanks_1 a0 a1 a2) from ((Prod.mk.inj (Prod.mk.inj (Prod.mk.inj (hv12.trans (show aX8_readNumber_12 a0 a1 a2 a3 a4 p0 p1 (n12 + 1) v x = (v, x, sX8_note_3 a3 (1 : Int32), sX8_note_4 a3 a4 (sX8_skipBlanks_1 a0 a1 a2)) from by rw [aX8_readNumber_12]; exact ((if_neg c20).trans ((if_pos c30).trans (if_pos c76)))))).2).2).2)])
        ·
          refine s_aload_n X (pc := 33) (x := (ad 0)) 0 dX8_readNumber_33 rfl ?_
          refine s_get X (pc := 34) (v := .int x) iX8_readNumber_X8 0 rfl rfl 1 (by decide) kX8_readNumber_22 rfl rfl dX8_readNumber_34 ?_
          refine s_iload_n X (pc := 37) (x := sX8_skipBlanks_1 a0 a1 a2) 3 dX8_readNumber_37 rfl ?_
          refine s_isub X (pc := 38) dX8_readNumber_38 ?_
          refine s_iconst X (pc := 39) (v := 3) dX8_readNumber_39 (by decide) ?_
          refine s_icmp_ge X (pc := 40) (tgt := 58) dX8_readNumber_40 (by decide) (fun c40 => ?_) (fun c40 => ?_)
          ·
            refine s_aload_n X (pc := 58) (x := (ad 0)) 0 dX8_readNumber_58 rfl ?_
            refine s_dup X (pc := 59) dX8_readNumber_59 rfl ?_
            refine s_get X (pc := 60) (v := .int x) iX8_readNumber_X8 0 rfl rfl 1 (by decide) kX8_readNumber_22 rfl rfl dX8_readNumber_60 ?_
            refine s_iconst X (pc := 63) (v := 1) dX8_readNumber_63 (by decide) ?_
            refine s_iadd X (pc := 64) dX8_readNumber_64 ?_
            refine s_put X (pc := 65) (v := .int (x + (1 : Int32))) (w2 := wX8 G ad a0 (x + (1 : Int32)) a2 a3 a4) iX8_readNumber_X8 0 rfl rfl 1 (by decide) kX8_readNumber_22 rfl tyX8 tyX8_ok nmX8 rfl (ty := .int) (by decide +kernel) rfl rfl (Nat.le_of_ble_eq_true rfl) rfl dX8_readNumber_65 ?_
            refine s_goto X (pc := 68) (tgt := 12) dX8_readNumber_68 (by decide) ?_
            refine s_perm (lv2 := [(0, .ref (ad 0)), (1, .int p0), (2, .int p1), (3, .int (sX8_skipBlanks_1 a0 a1 a2)), (4, .int v)]) [0, 1, 2, 3, 4] rfl ?_
            exact ih12 v (x + (1 : Int32)) (by grind) (up_lt (b := 240) rfl (by grind) hm12) (hv12.trans (show aX8_readNumber_12 a0 a1 a2 a3 a4 p0 p1 (n12 + 1) v x = aX8_readNumber_12 a0 a1 a2 a3 a4 p0 p1 n12 v (x + (1 : Int32)) from by rw [aX8_readNumber_12]; exact ((if_neg c20).trans ((if_neg c30).trans (if_pos c40)))))
          ·
            refine s_iload X (pc := 43) (x := v) 4 dX8_readNumber_43 rfl ?_
            refine s_bipush X (pc := 45) (v := 10) dX8_readNumber_45 (by decide) ?_
            refine s_imul X (pc := 47) dX8_readNumber_47 ?_
            refine s_aload_n X (pc := 48) (x := (ad 0)) 0 dX8_readNumber_48 rfl ?_
            refine s_callVi0 X (pc := 49) (r := rX8_letter a0 x a2) (w := wX8 G ad a0 x a2 a3 a4) (n := 0) (st := [.int (v * (10 : Int32))]) (As := []) (w2 := wX8 G ad a0 x a2 a3 a4) 0 (c_X8_letter l G ad a0 x a2 a3 a4) gX8_readNumber_X8_letter rfl (by decide +kernel) ⟨Nat.le_of_ble_eq_true rfl, Nat.le_of_ble_eq_true rfl⟩ 0 rfl rfl rfl rfl (Nat.le_of_ble_eq_true rfl) (Nat.zero_le _) (Nat.zero_le _) dX8_readNumber_49 ?_
            refine s_iadd X (pc := 52) dX8_readNumber_52 ?_
            refine s_bipush X (pc := 53) (v := 48) dX8_readNumber_53 (by decide) ?_
            refine s_isub X (pc := 55) dX8_readNumber_55 ?_
            refine s_istore X (pc := 56) (i := 4) (lv2 := [(4, .int (((v * (10 : Int32)) + (rX8_letter a0 x a2)) - (48 : Int32))), (0, .ref (ad 0)), (1, .int p0), (2, .int p1), (3, .int (sX8_skipBlanks_1 a0 a1 a2))]) dX8_readNumber_56 (by decide) rfl ?_
            refine s_aload_n X (pc := 58) (x := (ad 0)) 1 dX8_readNumber_58 rfl ?_
            refine s_dup X (pc := 59) dX8_readNumber_59 rfl ?_
            refine s_get X (pc := 60) (v := .int x) iX8_readNumber_X8 0 rfl rfl 1 (by decide) kX8_readNumber_22 rfl rfl dX8_readNumber_60 ?_
            refine s_iconst X (pc := 63) (v := 1) dX8_readNumber_63 (by decide) ?_
            refine s_iadd X (pc := 64) dX8_readNumber_64 ?_
            refine s_put X (pc := 65) (v := .int (x + (1 : Int32))) (w2 := wX8 G ad a0 (x + (1 : Int32)) a2 a3 a4) iX8_readNumber_X8 0 rfl rfl 1 (by decide) kX8_readNumber_22 rfl tyX8 tyX8_ok nmX8 rfl (ty := .int) (by decide +kernel) rfl rfl (Nat.le_of_ble_eq_true rfl) rfl dX8_readNumber_65 ?_
            refine s_goto X (pc := 68) (tgt := 12) dX8_readNumber_68 (by decide) ?_
            refine s_perm (lv2 := [(0, .ref (ad 0)), (1, .int p0), (2, .int p1), (3, .int (sX8_skipBlanks_1 a0 a1 a2)), (4, .int (((v * (10 : Int32)) + (rX8_letter a0 x a2)) - (48 : Int32)))]) [1, 2, 3, 4, 0] rfl ?_
            exact ih12 (((v * (10 : Int32)) + (rX8_letter a0 x a2)) - (48 : Int32)) (x + (1 : Int32)) (by grind) (up_lt (b := 240) rfl (by grind) hm12) (hv12.trans (show aX8_readNumber_12 a0 a1 a2 a3 a4 p0 p1 (n12 + 1) v x = aX8_readNumber_12 a0 a1 a2 a3 a4 p0 p1 n12 (((v * (10 : Int32)) + (rX8_letter a0 x a2)) - (48 : Int32)) (x + (1 : Int32)) from by rw [aX8_readNumber_12]; exact ((if_neg c20).trans ((if_neg c30).trans (if_neg c40)))))
  exact L12 241 (0 : Int32) (sX8_skipBlanks_1 a0 a1 a2) (skip_nn hp hl) (m_lt (skip_nn hp hl)) (by unfold rX8_readNumber sX8_readNumber_1 sX8_readNumber_3 sX8_readNumber_4; with_reducible rfl)

theorem iX8_demandEnd_X8 : ∀ z ∈ wsX80, z ∈ wsX8_demandEnd := fun z h => List.mem_cons_of_mem _ (List.mem_append_right _ h)
theorem kX8_demandEnd_22 : Cond.fieldLink RX8 22 "BathingCourt$Reader" (TX8 1).2.1 (TX8 1).2.2.1 ∈ wsX8_demandEnd := List.mem_of_getElem? (i := 1) rfl
def sX8_demandEnd_1 (a0 : Nat → Int32) (a1 a2 : Int32) : Int32 := if (rX8_passes a0 a1 a2 (59 : Int32)) = 0 then (sX8_passes_1 a0 a1 a2 (59 : Int32)) else (sX8_passes_1 a0 a1 a2 (59 : Int32))
def sX8_demandEnd_3 (a0 : Nat → Int32) (a1 a2 a3 : Int32) : Int32 := if (rX8_passes a0 a1 a2 (59 : Int32)) = 0 then (sX8_note_3 a3 (1 : Int32)) else a3
def sX8_demandEnd_4 (a0 : Nat → Int32) (a1 a2 a3 a4 : Int32) : Int32 := if (rX8_passes a0 a1 a2 (59 : Int32)) = 0 then (sX8_note_4 a3 a4 (sX8_passes_1 a0 a1 a2 (59 : Int32))) else a4
set_option maxRecDepth 100000 in
set_option maxHeartbeats 4000000 in
theorem c_X8_demandEnd (l : Launch) (G : GT) (ad : Nat → Nat) (a0 : Nat → Int32) (a1 a2 a3 a4 : Int32) (hp : 0 ≤ a1) (hl : a2 ≤ 240) : Cv l G yX8_demandEnd wsX8_demandEnd (rmL 3) [.ref (ad 0)] (wX8 G ad a0 a1 a2 a3 a4) (wX8 G ad a0 (sX8_demandEnd_1 a0 a1 a2) a2 (sX8_demandEnd_3 a0 a1 a2 a3) (sX8_demandEnd_4 a0 a1 a2 a3 a4)) := by
  refine cv_start (by decide) rfl rfl (Nat.le_of_ble_eq_true rfl) ?_
  intro p e s m args below meth c A X
  refine s_perm (lv2 := [(0, .ref (ad 0))]) [0] rfl ?_
  refine s_aload_n X (pc := 0) (x := (ad 0)) 0 dX8_demandEnd_0 rfl ?_
  refine s_bipush X (pc := 1) (v := 59) dX8_demandEnd_1 (by decide) ?_
  refine s_callVi0 X (pc := 3) (r := rX8_passes a0 a1 a2 (59 : Int32)) (w := wX8 G ad a0 a1 a2 a3 a4) (n := 1) (st := []) (As := [.int (59 : Int32)]) (w2 := wX8 G ad a0 (sX8_passes_1 a0 a1 a2 (59 : Int32)) a2 a3 a4) 2 (c_X8_passes l G ad a0 a1 a2 a3 a4 (59 : Int32) (by first | with_reducible assumption | grind) (by first | with_reducible assumption | grind)) gX8_demandEnd_X8_passes rfl (by decide +kernel) ⟨Nat.le_of_ble_eq_true rfl, Nat.le_of_ble_eq_true rfl⟩ 0 rfl rfl rfl rfl (Nat.le_of_ble_eq_true rfl) (Nat.zero_le _) (Nat.zero_le _) dX8_demandEnd_3 ?_
  refine s_if_ne X (pc := 6) (tgt := 18) dX8_demandEnd_6 (by decide) (fun c6 => ?_) (fun c6 => ?_)
  ·
    exact s_vret X (pc := 18) dX8_demandEnd_18 (by rw [show sX8_demandEnd_1 a0 a1 a2 = sX8_passes_1 a0 a1 a2 (59 : Int32) from (by unfold sX8_demandEnd_1; exact (if_neg c6)), show sX8_demandEnd_3 a0 a1 a2 a3 = a3 from (by unfold sX8_demandEnd_3; exact (if_neg c6)), show sX8_demandEnd_4 a0 a1 a2 a3 a4 = a4 from (by unfold sX8_demandEnd_4; exact (if_neg c6))])
  ·
    refine s_aload_n X (pc := 9) (x := (ad 0)) 0 dX8_demandEnd_9 rfl ?_
    refine s_iconst X (pc := 10) (v := 1) dX8_demandEnd_10 (by decide) ?_
    refine s_aload_n X (pc := 11) (x := (ad 0)) 0 dX8_demandEnd_11 rfl ?_
    refine s_get X (pc := 12) (v := .int (sX8_passes_1 a0 a1 a2 (59 : Int32))) iX8_demandEnd_X8 0 rfl rfl 1 (by decide) kX8_demandEnd_22 rfl rfl dX8_demandEnd_12 ?_
    refine s_callVv0 X (pc := 15) (w := wX8 G ad a0 (sX8_passes_1 a0 a1 a2 (59 : Int32)) a2 a3 a4) (n := 2) (st := []) (As := [.int (1 : Int32), .int (sX8_passes_1 a0 a1 a2 (59 : Int32))]) (w2 := wX8 G ad a0 (sX8_passes_1 a0 a1 a2 (59 : Int32)) a2 (sX8_note_3 a3 (1 : Int32)) (sX8_note_4 a3 a4 (sX8_passes_1 a0 a1 a2 (59 : Int32)))) 0 (c_X8_note l G ad a0 (sX8_passes_1 a0 a1 a2 (59 : Int32)) a2 a3 a4 (1 : Int32) (sX8_passes_1 a0 a1 a2 (59 : Int32))) gX8_demandEnd_X8_note rfl (by decide +kernel) ⟨Nat.le_of_ble_eq_true rfl, Nat.le_of_ble_eq_true rfl⟩ 0 rfl rfl rfl rfl (Nat.le_of_ble_eq_true rfl) (Nat.zero_le _) (Nat.zero_le _) dX8_demandEnd_15 ?_
    exact s_vret X (pc := 18) dX8_demandEnd_18 (by rw [show sX8_demandEnd_1 a0 a1 a2 = sX8_passes_1 a0 a1 a2 (59 : Int32) from (by unfold sX8_demandEnd_1; exact (if_pos c6)), show sX8_demandEnd_3 a0 a1 a2 a3 = sX8_note_3 a3 (1 : Int32) from (by unfold sX8_demandEnd_3; exact (if_pos c6)), show sX8_demandEnd_4 a0 a1 a2 a3 a4 = sX8_note_4 a3 a4 (sX8_passes_1 a0 a1 a2 (59 : Int32)) from (by unfold sX8_demandEnd_4; exact (if_pos c6))])
