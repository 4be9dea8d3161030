theorem P_mem {D : va_G} {cl : List vw_C} {ws : va_W} {H : Heap} : va_P D cl ws H ↔ ∀ q ∈ ws, va_at D cl q H :=
  ⟨fun h q hq => by obtain ⟨k, hk⟩ := List.mem_iff_getElem?.mp hq; exact h k q hk, fun h k q hk => h q (List.mem_of_getElem? hk)⟩
theorem D_mem {A : Nat → Prop} {ws : va_W} : va_D A ws ↔ (ws.map Prod.fst).Nodup ∧ ∀ q ∈ ws, A q.1 := by
  constructor
  · intro h
    refine ⟨?_, fun q hq => by obtain ⟨k, hk⟩ := List.mem_iff_getElem?.mp hq; exact h.2 k q hk⟩
    rw [List.nodup_iff_pairwise_ne, List.pairwise_iff_getElem]
    intro i j hi hj hij e
    rw [List.length_map] at hi hj
    rw [List.getElem_map, List.getElem_map] at e
    have := h.1 i j _ _ (List.getElem?_eq_getElem hi) (List.getElem?_eq_getElem hj) e
    omega
  · intro h
    refine ⟨fun i j a b ha hb e => ?_, fun k q hk => h.2 q (List.mem_of_getElem? hk)⟩
    have hi : i < (ws.map Prod.fst).length := by
      rw [List.length_map]
      exact (List.getElem?_eq_some_iff.mp ha).1
    refine (List.getElem?_inj hi h.1).mp ?_
    rw [List.getElem?_map, List.getElem?_map, ha, hb]
    show some a.1 = some b.1
    rw [e]
theorem A_mem {ws : va_W} {sz q : Nat} : va_A ws sz q ↔ q ∈ ws.map Prod.fst ∨ sz ≤ q := by
  unfold va_A
  constructor
  · rintro (⟨k, e, hk⟩ | h)
    · exact Or.inl (List.mem_map.mpr ⟨(q, e), List.mem_of_getElem? hk, rfl⟩)
    · exact Or.inr h
  · rintro (h | h)
    · obtain ⟨z, hz, rfl⟩ := List.mem_map.mp h
      obtain ⟨k, hk⟩ := List.mem_iff_getElem?.mp hz
      exact Or.inl ⟨k, z.2, hk⟩
    · exact Or.inr h
theorem fr_D {w0 rest w : va_W} (hp : w.Perm (w0 ++ rest)) {A : Nat → Prop} (hD : va_D A w) : va_D A w0 := by
  have h := D_mem.mp hD
  have hn := (hp.map Prod.fst).nodup h.1
  rw [List.map_append] at hn
  exact D_mem.mpr ⟨(List.nodup_append.mp hn).1, fun q hq => h.2 q (hp.mem_iff.mpr (List.mem_append_left _ hq))⟩
theorem fr_P {D : va_G} {cl : List vw_C} {w0 w1 rest w w2 : va_W} {H H1 : Heap} {A : Nat → Prop} (hp : w.Perm (w0 ++ rest)) (hp2 : w2.Perm (w1 ++ rest)) (hP : va_P D cl w H) (hD : va_D A w) (hP1 : va_P D cl w1 H1) (hk : ∀ q : Nat, q < H.size → ¬ va_A w0 H.size q → H1[q]? = H[q]?) : va_P D cl w2 H1 := by
  rw [P_mem] at hP hP1 ⊢
  intro q hq
  rcases List.mem_append.mp (hp2.mem_iff.mp hq) with h | h
  · exact hP1 q h
  · have ha := hP q (hp.mem_iff.mpr (List.mem_append_right _ h))
    refine ha.kept (hk _ ha.lt fun hA => ?_)
    rcases A_mem.mp hA with h1 | h1
    · have hn := (hp.map Prod.fst).nodup (D_mem.mp hD).1
      rw [List.map_append] at hn
      exact (List.nodup_append.mp hn).2.2 _ h1 _ (List.mem_map.mpr ⟨q, h, rfl⟩) rfl
    · exact absurd ha.lt (Nat.not_lt.mpr h1)
theorem fr_map {w0 w1 rest w w2 : va_W} (hp : w.Perm (w0 ++ rest)) (hp2 : w2.Perm (w1 ++ rest)) (hf : w1.map Prod.fst = w0.map Prod.fst) : (w2.map Prod.fst).Perm (w.map Prod.fst) := by
  have h1 := hp2.map Prod.fst
  have h2 := hp.map Prod.fst
  rw [List.map_append, hf, ← List.map_append] at h1
  exact h1.trans h2.symm
theorem fr_D2 {w0 w1 rest w w2 : va_W} (hp : w.Perm (w0 ++ rest)) (hp2 : w2.Perm (w1 ++ rest)) (hf : w1.map Prod.fst = w0.map Prod.fst) {A : Nat → Prop} {sz : Nat} (hD : va_D A w) : va_D (va_A w sz) w2 := by
  have hm := fr_map hp hp2 hf
  refine D_mem.mpr ⟨hm.symm.nodup (D_mem.mp hD).1, fun q hq => A_mem.mpr (Or.inl (hm.mem_iff.mp (List.mem_map.mpr ⟨q, hq, rfl⟩)))⟩
theorem fr_A {w0 rest w : va_W} (hp : w.Perm (w0 ++ rest)) {sz q : Nat} (h : va_A w0 sz q) : va_A w sz q := by
  rcases A_mem.mp h with h | h
  · refine A_mem.mpr (Or.inl ((hp.map Prod.fst).mem_iff.mpr ?_))
    rw [List.map_append]
    exact List.mem_append_left _ h
  · exact A_mem.mpr (Or.inr h)
/-- a contract holds in every larger world -/
theorem ci_fr {l : Launch} {G : GT} {y : MethodName} {ws : List Cond} {rm : Room} {av : List Value} {w0 w1 rest w w2 : va_W} {r : Int32} (hp : w.Perm (w0 ++ rest)) (hp2 : w2.Perm (w1 ++ rest)) (ads : List Nat) (hf0 : w0.map Prod.fst = ads) (hf1 : w1.map Prod.fst = ads) (hM : Ci l G y ws rm av w0 r w1) : Ci l G y ws rm av w r w2 := by
  intro sz
  refine MetFree.mono (hM sz) ?_ (fun _ _ _ _ _ h => h) ?_
  · rintro a s ⟨ha, hz, hP, hK, hD⟩
    exact ⟨ha, hz, P_mem.mpr fun q hq => P_mem.mp hP q (hp.mem_iff.mpr (List.mem_append_left _ hq)), hK, fr_D hp hD⟩
  · rintro a s o t ⟨ha, hz, hP, hK, hD⟩ ⟨⟨⟨r', u, ho, hr, hP1, hK1, hD1⟩, hF⟩, L, hL, hfree⟩
    subst hz
    exact ⟨⟨⟨r', u, ho, hr, fr_P hp hp2 hP hD hP1 (fun q hq hA => hF.2 q hq hA), hK1, fr_D2 hp hp2 (hf1.trans hf0.symm) hD⟩, hF.1, fun q hq hA => hF.2 q hq (fun h => hA (fr_A hp h))⟩, L, hL, fun q hq => fr_A hp (hfree q hq)⟩
theorem cv_fr {l : Launch} {G : GT} {y : MethodName} {ws : List Cond} {rm : Room} {av : List Value} {w0 w1 rest w w2 : va_W} (hp : w.Perm (w0 ++ rest)) (hp2 : w2.Perm (w1 ++ rest)) (ads : List Nat) (hf0 : w0.map Prod.fst = ads) (hf1 : w1.map Prod.fst = ads) (hM : Cv l G y ws rm av w0 w1) : Cv l G y ws rm av w w2 := by
  intro sz
  refine MetFree.mono (hM sz) ?_ (fun _ _ _ _ _ h => h) ?_
  · rintro a s ⟨ha, hz, hP, hK, hD⟩
    exact ⟨ha, hz, P_mem.mpr fun q hq => P_mem.mp hP q (hp.mem_iff.mpr (List.mem_append_left _ hq)), hK, fr_D hp hD⟩
  · rintro a s o t ⟨ha, hz, hP, hK, hD⟩ ⟨⟨⟨u, ho, hr, hP1, hK1, hD1⟩, hF⟩, L, hL, hfree⟩
    subst hz
    exact ⟨⟨⟨u, ho, hr, fr_P hp hp2 hP hD hP1 (fun q hq hA => hF.2 q hq hA), hK1, fr_D2 hp hp2 (hf1.trans hf0.symm) hD⟩, hF.1, fun q hq hA => hF.2 q hq (fun h => hA (fr_A hp h))⟩, L, hL, fun q hq => fr_A hp (hfree q hq)⟩
theorem pm1 (p a t : va_W) : (p ++ (a ++ t)).Perm (a ++ (p ++ t)) := List.perm_append_comm_assoc p a t
theorem pm2 (p a q b t : va_W) : (p ++ (a ++ (q ++ (b ++ t)))).Perm ((a ++ b) ++ (p ++ (q ++ t))) := by
  refine (pm1 p a _).trans ?_
  rw [List.append_assoc]
  refine List.Perm.append_left a ?_
  refine (List.Perm.append_left p (pm1 q b t)).trans ?_
  exact pm1 p b _
theorem pm2r (p a q b t : va_W) : (p ++ (b ++ (q ++ (a ++ t)))).Perm ((a ++ b) ++ (p ++ (q ++ t))) := (pm2 p b q a t).trans (List.Perm.append_right _ List.perm_append_comm)
/-- the order of a world's cells is free -/
theorem s_wperm {p : Program} {l : Launch} {e : Env} {R : Room} {s : State} {m : MethodId} {args : Array Value} {below : List Frame} {meth : Method} {c : Code} {G : GT} {A : Nat → Prop} {nL cells slots : Nat} {Q : State → Prop} {pc : Nat} {lv : LV} {st : List Value} {w w2 : va_W} (hp : w.Perm w2) (k : Sm p l e R s m args below meth c G A nL cells slots Q pc lv st w2) : Sm p l e R s m args below meth c G A nL cells slots Q pc lv st w := by
  intro H locs ls hP hD hS hl
  refine k H locs ls (P_mem.mpr fun q hq => P_mem.mp hP q (hp.mem_iff.mpr hq)) ?_ hS hl
  have h := D_mem.mp hD
  exact D_mem.mpr ⟨(hp.map Prod.fst).nodup h.1, fun q hq => h.2 q (hp.mem_iff.mpr hq)⟩
