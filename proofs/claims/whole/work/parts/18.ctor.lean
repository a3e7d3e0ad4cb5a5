theorem gk_arrI {D : va_G} {cl : List vw_C} {s : State} {cyI cyJ cyZ cA : ClassId} (h : va_K D cl ([(cyI, .int), (cyJ, .long), (cyZ, .boolean)] ++ [(cA, .int)]) s) : cyI = cA := Option.some.inj ((show s.vm.findClass _ = some cyI from (h.2 0 _ rfl).2).symm.trans (show s.vm.findClass _ = some cA from (h.2 3 _ rfl).2))
theorem gk_arrJ {D : va_G} {cl : List vw_C} {s : State} {cyI cyJ cyZ cA : ClassId} (h : va_K D cl ([(cyI, .int), (cyJ, .long), (cyZ, .boolean)] ++ [(cA, .long)]) s) : cyJ = cA := Option.some.inj ((show s.vm.findClass _ = some cyJ from (h.2 1 _ rfl).2).symm.trans (show s.vm.findClass _ = some cA from (h.2 3 _ rfl).2))
theorem gk_arrZ {D : va_G} {cl : List vw_C} {s : State} {cyI cyJ cyZ cA : ClassId} (h : va_K D cl ([(cyI, .int), (cyJ, .long), (cyZ, .boolean)] ++ [(cA, .boolean)]) s) : cyZ = cA := Option.some.inj ((show s.vm.findClass _ = some cyZ from (h.2 2 _ rfl).2).symm.trans (show s.vm.findClass _ = some cA from (h.2 3 _ rfl).2))
theorem gk_zI (N : Nat) : ∀ cA : ClassId, vp_cell cA (N, .inl (fun _ => 0)) = arrV cA N (fun _ => defaultValue .int) := fun _ => rfl
theorem gk_zJ (N : Nat) : ∀ cA : ClassId, vp_cell cA (N, .inr (.inl (fun _ => 0))) = arrV cA N (fun _ => defaultValue .long) := fun _ => rfl
theorem gk_zZ (N : Nat) : ∀ cA : ClassId, vp_cell cA (N, .inl (fun _ => 0)) = arrV cA N (fun _ => defaultValue .boolean) := fun _ => rfl
theorem gk_lt3 {p : Nat → Prop} (h0 : p 0) (h1 : p 1) (h2 : p 2) : ∀ j, j < 3 → p j := fun j hj => by
  match j, hj with
  | 0, _ => exact h0
  | 1, _ => exact h1
  | 2, _ => exact h2
theorem gk_lt4 {p : Nat → Prop} (h0 : p 0) (h1 : p 1) (h2 : p 2) (h3 : p 3) : ∀ j, j < 4 → p j := fun j hj => by
  match j, hj with
  | 0, _ => exact h0
  | 1, _ => exact h1
  | 2, _ => exact h2
  | 3, _ => exact h3
theorem gk_lt6 {p : Nat → Prop} (h0 : p 0) (h1 : p 1) (h2 : p 2) (h3 : p 3) (h4 : p 4) (h5 : p 5) : ∀ j, j < 6 → p j := fun j hj => by
  match j, hj with
  | 0, _ => exact h0
  | 1, _ => exact h1
  | 2, _ => exact h2
  | 3, _ => exact h3
  | 4, _ => exact h4
  | 5, _ => exact h5
theorem gk_lt7 {p : Nat → Prop} (h0 : p 0) (h1 : p 1) (h2 : p 2) (h3 : p 3) (h4 : p 4) (h5 : p 5) (h6 : p 6) : ∀ j, j < 7 → p j := fun j hj => by
  match j, hj with
  | 0, _ => exact h0
  | 1, _ => exact h1
  | 2, _ => exact h2
  | 3, _ => exact h3
  | 4, _ => exact h4
  | 5, _ => exact h5
  | 6, _ => exact h6
theorem gk_lt10 {p : Nat → Prop} (h0 : p 0) (h1 : p 1) (h2 : p 2) (h3 : p 3) (h4 : p 4) (h5 : p 5) (h6 : p 6) (h7 : p 7) (h8 : p 8) (h9 : p 9) : ∀ j, j < 10 → p j := fun j hj => by
  match j, hj with
  | 0, _ => exact h0
  | 1, _ => exact h1
  | 2, _ => exact h2
  | 3, _ => exact h3
  | 4, _ => exact h4
  | 5, _ => exact h5
  | 6, _ => exact h6
  | 7, _ => exact h7
  | 8, _ => exact h8
  | 9, _ => exact h9
theorem gk_lt15 {p : Nat → Prop} (h0 : p 0) (h1 : p 1) (h2 : p 2) (h3 : p 3) (h4 : p 4) (h5 : p 5) (h6 : p 6) (h7 : p 7) (h8 : p 8) (h9 : p 9) (h10 : p 10) (h11 : p 11) (h12 : p 12) (h13 : p 13) (h14 : p 14) : ∀ j, j < 15 → p j := fun j hj => by
  match j, hj with
  | 0, _ => exact h0
  | 1, _ => exact h1
  | 2, _ => exact h2
  | 3, _ => exact h3
  | 4, _ => exact h4
  | 5, _ => exact h5
  | 6, _ => exact h6
  | 7, _ => exact h7
  | 8, _ => exact h8
  | 9, _ => exact h9
  | 10, _ => exact h10
  | 11, _ => exact h11
  | 12, _ => exact h12
  | 13, _ => exact h13
  | 14, _ => exact h14
/-! X0_init -/
abbrev rm_X0_init : Room := { frames := 1, cells := 8, slots := 102, locals := 12 }
set_option maxHeartbeats 40000000 in
set_option maxRecDepth 100000 in
theorem c_X0_init (l : Launch) (dC : Nat → ClassId) (dI : Nat → Nat → Nat) (cyI cyJ cyZ : ClassId) (aX : Nat) (sz : Nat) : Met l yX0_init wsX0_init rm_X0_init (va_Pc [.ref aX] (fun U => U.heap.size = sz ∧ va_P (dC, dI) vwCl [(aX, .inr (2, [.int 0, .int 0, .null, .null, .null, .null, .null, .null, .null, .null]))] U.heap ∧ va_K (dC, dI) vwCl [(cyI, .int), (cyJ, .long), (cyZ, .boolean)] U ∧ va_D (fun _ => True) [(aX, .inr (2, [.int 0, .int 0, .null, .null, .null, .null, .null, .null, .null, .null]))])) (va_Qv (fun (u : Unit) => True) (fun u t => ∃ (aX_clashing aX_between aX_leastTimes aX_mostTimes aX_phases aX_members aX_shortest aX_longestTimes : Nat), va_P (dC, dI) vwCl [(aX, .inr (2, [.int 0, .int 0, .ref aX_clashing, .ref aX_between, .ref aX_leastTimes, .ref aX_mostTimes, .ref aX_phases, .ref aX_members, .ref aX_shortest, .ref aX_longestTimes])), (aX_clashing, .inl (cyI, 6, .inl ((fun _ => 0)))), (aX_between, .inl (cyI, 36, .inl ((fun _ => 0)))), (aX_leastTimes, .inl (cyI, 6, .inl ((fun _ => 0)))), (aX_mostTimes, .inl (cyI, 6, .inl ((fun _ => 0)))), (aX_phases, .inl (cyI, 3, .inl ((fun _ => 0)))), (aX_members, .inl (cyI, 15, .inl ((fun _ => 0)))), (aX_shortest, .inl (cyI, 15, .inl ((fun _ => 0)))), (aX_longestTimes, .inl (cyI, 15, .inl ((fun _ => 0))))] t.heap ∧ va_K (dC, dI) vwCl [(cyI, .int), (cyJ, .long), (cyZ, .boolean)] t ∧ va_D (va_A [(aX, .inr (2, [.int 0, .int 0, .null, .null, .null, .null, .null, .null, .null, .null]))] sz) [(aX, .inr (2, [.int 0, .int 0, .ref aX_clashing, .ref aX_between, .ref aX_leastTimes, .ref aX_mostTimes, .ref aX_phases, .ref aX_members, .ref aX_shortest, .ref aX_longestTimes])), (aX_clashing, .inl (cyI, 6, .inl ((fun _ => 0)))), (aX_between, .inl (cyI, 36, .inl ((fun _ => 0)))), (aX_leastTimes, .inl (cyI, 6, .inl ((fun _ => 0)))), (aX_mostTimes, .inl (cyI, 6, .inl ((fun _ => 0)))), (aX_phases, .inl (cyI, 3, .inl ((fun _ => 0)))), (aX_members, .inl (cyI, 15, .inl ((fun _ => 0)))), (aX_shortest, .inl (cyI, 15, .inl ((fun _ => 0)))), (aX_longestTimes, .inl (cyI, 15, .inl ((fun _ => 0))))]) (va_A [(aX, .inr (2, [.int 0, .int 0, .null, .null, .null, .null, .null, .null, .null, .null]))] sz)) 8 102 (va_A [(aX, .inr (2, [.int 0, .int 0, .null, .null, .null, .null, .null, .null, .null, .null]))] sz) := by
  refine Met.ofW (cc := cX0_init) (maxL := 1) (ret := none) (by decide) rfl ?_
  intro p e s m args below meth c s₁ B hml hv
  obtain ⟨hargs, hsz, hP, hK, hD0⟩ := hv
  have hx := B.exec
  have hb := B.bytes
  have hr := B.returns
  have hts := atoms_spec (ws := wsX0_init) B.pre
  have hown : s.vm.findClass RX0 = some m.cls := findClass_of_methodNamed B.named
  have hlocks := B.notSynchronized
  have hinit : meth.name = "<init>" := (name_of_methodNamed B.named B.method).1
  have hinX0 : ∀ w ∈ u_ws RX0 TX0 10, w ∈ wsX0_init := by decide +kernel
  have hf_9 := hts (.fieldLink RX0 9 "SignalProofs$Crossing" "clashing" "[I") (by decide +kernel)
  have hf_15 := hts (.fieldLink RX0 15 "SignalProofs$Crossing" "between" "[I") (by decide +kernel)
  have hf_18 := hts (.fieldLink RX0 18 "SignalProofs$Crossing" "leastTimes" "[I") (by decide +kernel)
  have hf_21 := hts (.fieldLink RX0 21 "SignalProofs$Crossing" "mostTimes" "[I") (by decide +kernel)
  have hf_24 := hts (.fieldLink RX0 24 "SignalProofs$Crossing" "phases" "[I") (by decide +kernel)
  have hf_27 := hts (.fieldLink RX0 27 "SignalProofs$Crossing" "members" "[I") (by decide +kernel)
  have hf_30 := hts (.fieldLink RX0 30 "SignalProofs$Crossing" "shortest" "[I") (by decide +kernel)
  have hf_33 := hts (.fieldLink RX0 33 "SignalProofs$Crossing" "longestTimes" "[I") (by decide +kernel)
  have harrI := hts (.arrayClass .int) (by decide +kernel)
  subst hsz
  have hD := hD0.self (sz := s.heap.size)
  generalize hAe : va_A [(aX, .inr (2, [.int 0, .int 0, .null, .null, .null, .null, .null, .null, .null, .null]))] s.heap.size = A at hD ⊢
  have hA : ∀ q : Nat, s.heap.size ≤ q → A q := fun q h => by rw [← hAe]; exact Or.inr h
  have hS : va_S A s.heap s.heap [] := va_S.rf
  have hP : va_P (dC, dI) vwCl [(aX, .inr (2, [.int 0, .int 0, .null, .null, .null, .null, .null, .null, .null, .null]))] s.heap := hP
  have hl := lv_entry ([.ref aX]) (n := 1) (Nat.le_of_ble_eq_true rfl)
  rw [hargs, lg_entry_eq, ← hargs]
  generalize (lg_sl ([.ref aX]) ++ List.replicate (1 - (lg_sl ([.ref aX])).length) Slot.unset).toArray = ls at hl ⊢
  have hl : lv_has ls 1 [(0, .ref aX)] := hl
  refine lv_aload_n hx hb dX0_init_0 rfl (lv_at hl 0 rfl) ?_
  refine W.objInit hx hb hown (hts (.methodLink RX0 3 objectInit) (by decide +kernel)) (hts (.instanceMethod objectInit) (by decide +kernel)) (hts _ (List.mem_of_getElem? (i := 3) rfl)) rfl (by rw [hml]; exact hl.1) rfl dX0_init_1 (Nat.le_of_ble_eq_true rfl) (Nat.le_of_ble_eq_true rfl) ?_
  refine W.eq (g2 := F0 m 4 ls []) rfl ?_
  refine lv_aload_n hx hb dX0_init_4 rfl (lv_at hl 0 rfl) ?_
  refine lv_bipush (v := 6) hx hb dX0_init_5 (by decide) ?_
  refine va_newa (atype := .int) (n := 6) (N' := 6) (a0 := (6, .inl (fun _ => 0))) (ty := .int) hx hb harrI rfl hK hP hD hS hA (gk_zI 6) (by decide) (by decide) (Nat.le_of_ble_eq_true rfl) (Nat.le_of_ble_eq_true rfl) (Nat.le_of_ble_eq_true rfl) dX0_init_7 (fun aX_clashing cA H hKn hP hD hS => ?_)
  obtain rfl := gk_arrI hKn
  clear hKn
  have hP : va_P (dC, dI) vwCl [(aX, .inr (2, [.int 0, .int 0, .null, .null, .null, .null, .null, .null, .null, .null])), (aX_clashing, .inl (cyI, 6, .inl ((fun _ => 0))))] H := hP
  have hD : va_D A [(aX, .inr (2, [.int 0, .int 0, .null, .null, .null, .null, .null, .null, .null, .null])), (aX_clashing, .inl (cyI, 6, .inl ((fun _ => 0))))] := hD
  refine W.widen (k := 1) (n := 6) (Nat.le_refl _) (Nat.le_refl _) ?_
  refine va_putF (D := (dC, dI)) (ci := 2) (v := .ref aX_clashing) (ty := .array .int) (C := RX0) (T := TX0) (N := 10) hx hb hts hinX0 tyX0 tyX0_ok nmX0 hown hK hP hD hS 0 rfl rfl 2 (by decide) hf_9 (fun _ h9 => h9) rfl hinit rfl (by decide +kernel) rfl rfl (Nat.le_of_ble_eq_true rfl) dX0_init_9 (fun H locs hP hD hS => ?_)
  have hP : va_P (dC, dI) vwCl [(aX, .inr (2, [.int 0, .int 0, .ref aX_clashing, .null, .null, .null, .null, .null, .null, .null])), (aX_clashing, .inl (cyI, 6, .inl ((fun _ => 0))))] H := hP
  have hD : va_D A [(aX, .inr (2, [.int 0, .int 0, .ref aX_clashing, .null, .null, .null, .null, .null, .null, .null])), (aX_clashing, .inl (cyI, 6, .inl ((fun _ => 0))))] := hD
  refine lv_aload_n hx hb dX0_init_12 rfl (lv_at hl 0 rfl) ?_
  refine lv_bipush (v := 36) hx hb dX0_init_13 (by decide) ?_
  refine va_newa (atype := .int) (n := 36) (N' := 36) (a0 := (36, .inl (fun _ => 0))) (ty := .int) hx hb harrI rfl hK hP hD hS hA (gk_zI 36) (by decide) (by decide) (Nat.le_of_ble_eq_true rfl) (Nat.le_of_ble_eq_true rfl) (Nat.le_of_ble_eq_true rfl) dX0_init_15 (fun aX_between cA H hKn hP hD hS => ?_)
  obtain rfl := gk_arrI hKn
  clear hKn
  have hP : va_P (dC, dI) vwCl [(aX, .inr (2, [.int 0, .int 0, .ref aX_clashing, .null, .null, .null, .null, .null, .null, .null])), (aX_clashing, .inl (cyI, 6, .inl ((fun _ => 0)))), (aX_between, .inl (cyI, 36, .inl ((fun _ => 0))))] H := hP
  have hD : va_D A [(aX, .inr (2, [.int 0, .int 0, .ref aX_clashing, .null, .null, .null, .null, .null, .null, .null])), (aX_clashing, .inl (cyI, 6, .inl ((fun _ => 0)))), (aX_between, .inl (cyI, 36, .inl ((fun _ => 0))))] := hD
  refine W.widen (k := 2) (n := 42) (Nat.le_refl _) (Nat.le_refl _) ?_
  refine va_putF (D := (dC, dI)) (ci := 2) (v := .ref aX_between) (ty := .array .int) (C := RX0) (T := TX0) (N := 10) hx hb hts hinX0 tyX0 tyX0_ok nmX0 hown hK hP hD hS 0 rfl rfl 3 (by decide) hf_15 (fun _ h9 => h9) rfl hinit rfl (by decide +kernel) rfl rfl (Nat.le_of_ble_eq_true rfl) dX0_init_17 (fun H locs hP hD hS => ?_)
  have hP : va_P (dC, dI) vwCl [(aX, .inr (2, [.int 0, .int 0, .ref aX_clashing, .ref aX_between, .null, .null, .null, .null, .null, .null])), (aX_clashing, .inl (cyI, 6, .inl ((fun _ => 0)))), (aX_between, .inl (cyI, 36, .inl ((fun _ => 0))))] H := hP
  have hD : va_D A [(aX, .inr (2, [.int 0, .int 0, .ref aX_clashing, .ref aX_between, .null, .null, .null, .null, .null, .null])), (aX_clashing, .inl (cyI, 6, .inl ((fun _ => 0)))), (aX_between, .inl (cyI, 36, .inl ((fun _ => 0))))] := hD
  refine lv_aload_n hx hb dX0_init_20 rfl (lv_at hl 0 rfl) ?_
  refine lv_bipush (v := 6) hx hb dX0_init_21 (by decide) ?_
  refine va_newa (atype := .int) (n := 6) (N' := 6) (a0 := (6, .inl (fun _ => 0))) (ty := .int) hx hb harrI rfl hK hP hD hS hA (gk_zI 6) (by decide) (by decide) (Nat.le_of_ble_eq_true rfl) (Nat.le_of_ble_eq_true rfl) (Nat.le_of_ble_eq_true rfl) dX0_init_23 (fun aX_leastTimes cA H hKn hP hD hS => ?_)
  obtain rfl := gk_arrI hKn
  clear hKn
  have hP : va_P (dC, dI) vwCl [(aX, .inr (2, [.int 0, .int 0, .ref aX_clashing, .ref aX_between, .null, .null, .null, .null, .null, .null])), (aX_clashing, .inl (cyI, 6, .inl ((fun _ => 0)))), (aX_between, .inl (cyI, 36, .inl ((fun _ => 0)))), (aX_leastTimes, .inl (cyI, 6, .inl ((fun _ => 0))))] H := hP
  have hD : va_D A [(aX, .inr (2, [.int 0, .int 0, .ref aX_clashing, .ref aX_between, .null, .null, .null, .null, .null, .null])), (aX_clashing, .inl (cyI, 6, .inl ((fun _ => 0)))), (aX_between, .inl (cyI, 36, .inl ((fun _ => 0)))), (aX_leastTimes, .inl (cyI, 6, .inl ((fun _ => 0))))] := hD
  refine W.widen (k := 3) (n := 48) (Nat.le_refl _) (Nat.le_refl _) ?_
  refine va_putF (D := (dC, dI)) (ci := 2) (v := .ref aX_leastTimes) (ty := .array .int) (C := RX0) (T := TX0) (N := 10) hx hb hts hinX0 tyX0 tyX0_ok nmX0 hown hK hP hD hS 0 rfl rfl 4 (by decide) hf_18 (fun _ h9 => h9) rfl hinit rfl (by decide +kernel) rfl rfl (Nat.le_of_ble_eq_true rfl) dX0_init_25 (fun H locs hP hD hS => ?_)
  have hP : va_P (dC, dI) vwCl [(aX, .inr (2, [.int 0, .int 0, .ref aX_clashing, .ref aX_between, .ref aX_leastTimes, .null, .null, .null, .null, .null])), (aX_clashing, .inl (cyI, 6, .inl ((fun _ => 0)))), (aX_between, .inl (cyI, 36, .inl ((fun _ => 0)))), (aX_leastTimes, .inl (cyI, 6, .inl ((fun _ => 0))))] H := hP
  have hD : va_D A [(aX, .inr (2, [.int 0, .int 0, .ref aX_clashing, .ref aX_between, .ref aX_leastTimes, .null, .null, .null, .null, .null])), (aX_clashing, .inl (cyI, 6, .inl ((fun _ => 0)))), (aX_between, .inl (cyI, 36, .inl ((fun _ => 0)))), (aX_leastTimes, .inl (cyI, 6, .inl ((fun _ => 0))))] := hD
  refine lv_aload_n hx hb dX0_init_28 rfl (lv_at hl 0 rfl) ?_
  refine lv_bipush (v := 6) hx hb dX0_init_29 (by decide) ?_
  refine va_newa (atype := .int) (n := 6) (N' := 6) (a0 := (6, .inl (fun _ => 0))) (ty := .int) hx hb harrI rfl hK hP hD hS hA (gk_zI 6) (by decide) (by decide) (Nat.le_of_ble_eq_true rfl) (Nat.le_of_ble_eq_true rfl) (Nat.le_of_ble_eq_true rfl) dX0_init_31 (fun aX_mostTimes cA H hKn hP hD hS => ?_)
  obtain rfl := gk_arrI hKn
  clear hKn
  have hP : va_P (dC, dI) vwCl [(aX, .inr (2, [.int 0, .int 0, .ref aX_clashing, .ref aX_between, .ref aX_leastTimes, .null, .null, .null, .null, .null])), (aX_clashing, .inl (cyI, 6, .inl ((fun _ => 0)))), (aX_between, .inl (cyI, 36, .inl ((fun _ => 0)))), (aX_leastTimes, .inl (cyI, 6, .inl ((fun _ => 0)))), (aX_mostTimes, .inl (cyI, 6, .inl ((fun _ => 0))))] H := hP
  have hD : va_D A [(aX, .inr (2, [.int 0, .int 0, .ref aX_clashing, .ref aX_between, .ref aX_leastTimes, .null, .null, .null, .null, .null])), (aX_clashing, .inl (cyI, 6, .inl ((fun _ => 0)))), (aX_between, .inl (cyI, 36, .inl ((fun _ => 0)))), (aX_leastTimes, .inl (cyI, 6, .inl ((fun _ => 0)))), (aX_mostTimes, .inl (cyI, 6, .inl ((fun _ => 0))))] := hD
  refine W.widen (k := 4) (n := 54) (Nat.le_refl _) (Nat.le_refl _) ?_
  refine va_putF (D := (dC, dI)) (ci := 2) (v := .ref aX_mostTimes) (ty := .array .int) (C := RX0) (T := TX0) (N := 10) hx hb hts hinX0 tyX0 tyX0_ok nmX0 hown hK hP hD hS 0 rfl rfl 5 (by decide) hf_21 (fun _ h9 => h9) rfl hinit rfl (by decide +kernel) rfl rfl (Nat.le_of_ble_eq_true rfl) dX0_init_33 (fun H locs hP hD hS => ?_)
  have hP : va_P (dC, dI) vwCl [(aX, .inr (2, [.int 0, .int 0, .ref aX_clashing, .ref aX_between, .ref aX_leastTimes, .ref aX_mostTimes, .null, .null, .null, .null])), (aX_clashing, .inl (cyI, 6, .inl ((fun _ => 0)))), (aX_between, .inl (cyI, 36, .inl ((fun _ => 0)))), (aX_leastTimes, .inl (cyI, 6, .inl ((fun _ => 0)))), (aX_mostTimes, .inl (cyI, 6, .inl ((fun _ => 0))))] H := hP
  have hD : va_D A [(aX, .inr (2, [.int 0, .int 0, .ref aX_clashing, .ref aX_between, .ref aX_leastTimes, .ref aX_mostTimes, .null, .null, .null, .null])), (aX_clashing, .inl (cyI, 6, .inl ((fun _ => 0)))), (aX_between, .inl (cyI, 36, .inl ((fun _ => 0)))), (aX_leastTimes, .inl (cyI, 6, .inl ((fun _ => 0)))), (aX_mostTimes, .inl (cyI, 6, .inl ((fun _ => 0))))] := hD
  refine lv_aload_n hx hb dX0_init_36 rfl (lv_at hl 0 rfl) ?_
  refine lv_iconst (v := 3) hx hb dX0_init_37 (by decide) ?_
  refine va_newa (atype := .int) (n := 3) (N' := 3) (a0 := (3, .inl (fun _ => 0))) (ty := .int) hx hb harrI rfl hK hP hD hS hA (gk_zI 3) (by decide) (by decide) (Nat.le_of_ble_eq_true rfl) (Nat.le_of_ble_eq_true rfl) (Nat.le_of_ble_eq_true rfl) dX0_init_38 (fun aX_phases cA H hKn hP hD hS => ?_)
  obtain rfl := gk_arrI hKn
  clear hKn
  have hP : va_P (dC, dI) vwCl [(aX, .inr (2, [.int 0, .int 0, .ref aX_clashing, .ref aX_between, .ref aX_leastTimes, .ref aX_mostTimes, .null, .null, .null, .null])), (aX_clashing, .inl (cyI, 6, .inl ((fun _ => 0)))), (aX_between, .inl (cyI, 36, .inl ((fun _ => 0)))), (aX_leastTimes, .inl (cyI, 6, .inl ((fun _ => 0)))), (aX_mostTimes, .inl (cyI, 6, .inl ((fun _ => 0)))), (aX_phases, .inl (cyI, 3, .inl ((fun _ => 0))))] H := hP
  have hD : va_D A [(aX, .inr (2, [.int 0, .int 0, .ref aX_clashing, .ref aX_between, .ref aX_leastTimes, .ref aX_mostTimes, .null, .null, .null, .null])), (aX_clashing, .inl (cyI, 6, .inl ((fun _ => 0)))), (aX_between, .inl (cyI, 36, .inl ((fun _ => 0)))), (aX_leastTimes, .inl (cyI, 6, .inl ((fun _ => 0)))), (aX_mostTimes, .inl (cyI, 6, .inl ((fun _ => 0)))), (aX_phases, .inl (cyI, 3, .inl ((fun _ => 0))))] := hD
  refine W.widen (k := 5) (n := 57) (Nat.le_refl _) (Nat.le_refl _) ?_
  refine va_putF (D := (dC, dI)) (ci := 2) (v := .ref aX_phases) (ty := .array .int) (C := RX0) (T := TX0) (N := 10) hx hb hts hinX0 tyX0 tyX0_ok nmX0 hown hK hP hD hS 0 rfl rfl 6 (by decide) hf_24 (fun _ h9 => h9) rfl hinit rfl (by decide +kernel) rfl rfl (Nat.le_of_ble_eq_true rfl) dX0_init_40 (fun H locs hP hD hS => ?_)
  have hP : va_P (dC, dI) vwCl [(aX, .inr (2, [.int 0, .int 0, .ref aX_clashing, .ref aX_between, .ref aX_leastTimes, .ref aX_mostTimes, .ref aX_phases, .null, .null, .null])), (aX_clashing, .inl (cyI, 6, .inl ((fun _ => 0)))), (aX_between, .inl (cyI, 36, .inl ((fun _ => 0)))), (aX_leastTimes, .inl (cyI, 6, .inl ((fun _ => 0)))), (aX_mostTimes, .inl (cyI, 6, .inl ((fun _ => 0)))), (aX_phases, .inl (cyI, 3, .inl ((fun _ => 0))))] H := hP
  have hD : va_D A [(aX, .inr (2, [.int 0, .int 0, .ref aX_clashing, .ref aX_between, .ref aX_leastTimes, .ref aX_mostTimes, .ref aX_phases, .null, .null, .null])), (aX_clashing, .inl (cyI, 6, .inl ((fun _ => 0)))), (aX_between, .inl (cyI, 36, .inl ((fun _ => 0)))), (aX_leastTimes, .inl (cyI, 6, .inl ((fun _ => 0)))), (aX_mostTimes, .inl (cyI, 6, .inl ((fun _ => 0)))), (aX_phases, .inl (cyI, 3, .inl ((fun _ => 0))))] := hD
  refine lv_aload_n hx hb dX0_init_43 rfl (lv_at hl 0 rfl) ?_
  refine lv_bipush (v := 15) hx hb dX0_init_44 (by decide) ?_
  refine va_newa (atype := .int) (n := 15) (N' := 15) (a0 := (15, .inl (fun _ => 0))) (ty := .int) hx hb harrI rfl hK hP hD hS hA (gk_zI 15) (by decide) (by decide) (Nat.le_of_ble_eq_true rfl) (Nat.le_of_ble_eq_true rfl) (Nat.le_of_ble_eq_true rfl) dX0_init_46 (fun aX_members cA H hKn hP hD hS => ?_)
  obtain rfl := gk_arrI hKn
  clear hKn
  have hP : va_P (dC, dI) vwCl [(aX, .inr (2, [.int 0, .int 0, .ref aX_clashing, .ref aX_between, .ref aX_leastTimes, .ref aX_mostTimes, .ref aX_phases, .null, .null, .null])), (aX_clashing, .inl (cyI, 6, .inl ((fun _ => 0)))), (aX_between, .inl (cyI, 36, .inl ((fun _ => 0)))), (aX_leastTimes, .inl (cyI, 6, .inl ((fun _ => 0)))), (aX_mostTimes, .inl (cyI, 6, .inl ((fun _ => 0)))), (aX_phases, .inl (cyI, 3, .inl ((fun _ => 0)))), (aX_members, .inl (cyI, 15, .inl ((fun _ => 0))))] H := hP
  have hD : va_D A [(aX, .inr (2, [.int 0, .int 0, .ref aX_clashing, .ref aX_between, .ref aX_leastTimes, .ref aX_mostTimes, .ref aX_phases, .null, .null, .null])), (aX_clashing, .inl (cyI, 6, .inl ((fun _ => 0)))), (aX_between, .inl (cyI, 36, .inl ((fun _ => 0)))), (aX_leastTimes, .inl (cyI, 6, .inl ((fun _ => 0)))), (aX_mostTimes, .inl (cyI, 6, .inl ((fun _ => 0)))), (aX_phases, .inl (cyI, 3, .inl ((fun _ => 0)))), (aX_members, .inl (cyI, 15, .inl ((fun _ => 0))))] := hD
  refine W.widen (k := 6) (n := 72) (Nat.le_refl _) (Nat.le_refl _) ?_
  refine va_putF (D := (dC, dI)) (ci := 2) (v := .ref aX_members) (ty := .array .int) (C := RX0) (T := TX0) (N := 10) hx hb hts hinX0 tyX0 tyX0_ok nmX0 hown hK hP hD hS 0 rfl rfl 7 (by decide) hf_27 (fun _ h9 => h9) rfl hinit rfl (by decide +kernel) rfl rfl (Nat.le_of_ble_eq_true rfl) dX0_init_48 (fun H locs hP hD hS => ?_)
  have hP : va_P (dC, dI) vwCl [(aX, .inr (2, [.int 0, .int 0, .ref aX_clashing, .ref aX_between, .ref aX_leastTimes, .ref aX_mostTimes, .ref aX_phases, .ref aX_members, .null, .null])), (aX_clashing, .inl (cyI, 6, .inl ((fun _ => 0)))), (aX_between, .inl (cyI, 36, .inl ((fun _ => 0)))), (aX_leastTimes, .inl (cyI, 6, .inl ((fun _ => 0)))), (aX_mostTimes, .inl (cyI, 6, .inl ((fun _ => 0)))), (aX_phases, .inl (cyI, 3, .inl ((fun _ => 0)))), (aX_members, .inl (cyI, 15, .inl ((fun _ => 0))))] H := hP
  have hD : va_D A [(aX, .inr (2, [.int 0, .int 0, .ref aX_clashing, .ref aX_between, .ref aX_leastTimes, .ref aX_mostTimes, .ref aX_phases, .ref aX_members, .null, .null])), (aX_clashing, .inl (cyI, 6, .inl ((fun _ => 0)))), (aX_between, .inl (cyI, 36, .inl ((fun _ => 0)))), (aX_leastTimes, .inl (cyI, 6, .inl ((fun _ => 0)))), (aX_mostTimes, .inl (cyI, 6, .inl ((fun _ => 0)))), (aX_phases, .inl (cyI, 3, .inl ((fun _ => 0)))), (aX_members, .inl (cyI, 15, .inl ((fun _ => 0))))] := hD
  refine lv_aload_n hx hb dX0_init_51 rfl (lv_at hl 0 rfl) ?_
  refine lv_bipush (v := 15) hx hb dX0_init_52 (by decide) ?_
  refine va_newa (atype := .int) (n := 15) (N' := 15) (a0 := (15, .inl (fun _ => 0))) (ty := .int) hx hb harrI rfl hK hP hD hS hA (gk_zI 15) (by decide) (by decide) (Nat.le_of_ble_eq_true rfl) (Nat.le_of_ble_eq_true rfl) (Nat.le_of_ble_eq_true rfl) dX0_init_54 (fun aX_shortest cA H hKn hP hD hS => ?_)
  obtain rfl := gk_arrI hKn
  clear hKn
  have hP : va_P (dC, dI) vwCl [(aX, .inr (2, [.int 0, .int 0, .ref aX_clashing, .ref aX_between, .ref aX_leastTimes, .ref aX_mostTimes, .ref aX_phases, .ref aX_members, .null, .null])), (aX_clashing, .inl (cyI, 6, .inl ((fun _ => 0)))), (aX_between, .inl (cyI, 36, .inl ((fun _ => 0)))), (aX_leastTimes, .inl (cyI, 6, .inl ((fun _ => 0)))), (aX_mostTimes, .inl (cyI, 6, .inl ((fun _ => 0)))), (aX_phases, .inl (cyI, 3, .inl ((fun _ => 0)))), (aX_members, .inl (cyI, 15, .inl ((fun _ => 0)))), (aX_shortest, .inl (cyI, 15, .inl ((fun _ => 0))))] H := hP
  have hD : va_D A [(aX, .inr (2, [.int 0, .int 0, .ref aX_clashing, .ref aX_between, .ref aX_leastTimes, .ref aX_mostTimes, .ref aX_phases, .ref aX_members, .null, .null])), (aX_clashing, .inl (cyI, 6, .inl ((fun _ => 0)))), (aX_between, .inl (cyI, 36, .inl ((fun _ => 0)))), (aX_leastTimes, .inl (cyI, 6, .inl ((fun _ => 0)))), (aX_mostTimes, .inl (cyI, 6, .inl ((fun _ => 0)))), (aX_phases, .inl (cyI, 3, .inl ((fun _ => 0)))), (aX_members, .inl (cyI, 15, .inl ((fun _ => 0)))), (aX_shortest, .inl (cyI, 15, .inl ((fun _ => 0))))] := hD
  refine W.widen (k := 7) (n := 87) (Nat.le_refl _) (Nat.le_refl _) ?_
  refine va_putF (D := (dC, dI)) (ci := 2) (v := .ref aX_shortest) (ty := .array .int) (C := RX0) (T := TX0) (N := 10) hx hb hts hinX0 tyX0 tyX0_ok nmX0 hown hK hP hD hS 0 rfl rfl 8 (by decide) hf_30 (fun _ h9 => h9) rfl hinit rfl (by decide +kernel) rfl rfl (Nat.le_of_ble_eq_true rfl) dX0_init_56 (fun H locs hP hD hS => ?_)
  have hP : va_P (dC, dI) vwCl [(aX, .inr (2, [.int 0, .int 0, .ref aX_clashing, .ref aX_between, .ref aX_leastTimes, .ref aX_mostTimes, .ref aX_phases, .ref aX_members, .ref aX_shortest, .null])), (aX_clashing, .inl (cyI, 6, .inl ((fun _ => 0)))), (aX_between, .inl (cyI, 36, .inl ((fun _ => 0)))), (aX_leastTimes, .inl (cyI, 6, .inl ((fun _ => 0)))), (aX_mostTimes, .inl (cyI, 6, .inl ((fun _ => 0)))), (aX_phases, .inl (cyI, 3, .inl ((fun _ => 0)))), (aX_members, .inl (cyI, 15, .inl ((fun _ => 0)))), (aX_shortest, .inl (cyI, 15, .inl ((fun _ => 0))))] H := hP
  have hD : va_D A [(aX, .inr (2, [.int 0, .int 0, .ref aX_clashing, .ref aX_between, .ref aX_leastTimes, .ref aX_mostTimes, .ref aX_phases, .ref aX_members, .ref aX_shortest, .null])), (aX_clashing, .inl (cyI, 6, .inl ((fun _ => 0)))), (aX_between, .inl (cyI, 36, .inl ((fun _ => 0)))), (aX_leastTimes, .inl (cyI, 6, .inl ((fun _ => 0)))), (aX_mostTimes, .inl (cyI, 6, .inl ((fun _ => 0)))), (aX_phases, .inl (cyI, 3, .inl ((fun _ => 0)))), (aX_members, .inl (cyI, 15, .inl ((fun _ => 0)))), (aX_shortest, .inl (cyI, 15, .inl ((fun _ => 0))))] := hD
  refine lv_aload_n hx hb dX0_init_59 rfl (lv_at hl 0 rfl) ?_
  refine lv_bipush (v := 15) hx hb dX0_init_60 (by decide) ?_
  refine va_newa (atype := .int) (n := 15) (N' := 15) (a0 := (15, .inl (fun _ => 0))) (ty := .int) hx hb harrI rfl hK hP hD hS hA (gk_zI 15) (by decide) (by decide) (Nat.le_of_ble_eq_true rfl) (Nat.le_of_ble_eq_true rfl) (Nat.le_of_ble_eq_true rfl) dX0_init_62 (fun aX_longestTimes cA H hKn hP hD hS => ?_)
  obtain rfl := gk_arrI hKn
  clear hKn
  have hP : va_P (dC, dI) vwCl [(aX, .inr (2, [.int 0, .int 0, .ref aX_clashing, .ref aX_between, .ref aX_leastTimes, .ref aX_mostTimes, .ref aX_phases, .ref aX_members, .ref aX_shortest, .null])), (aX_clashing, .inl (cyI, 6, .inl ((fun _ => 0)))), (aX_between, .inl (cyI, 36, .inl ((fun _ => 0)))), (aX_leastTimes, .inl (cyI, 6, .inl ((fun _ => 0)))), (aX_mostTimes, .inl (cyI, 6, .inl ((fun _ => 0)))), (aX_phases, .inl (cyI, 3, .inl ((fun _ => 0)))), (aX_members, .inl (cyI, 15, .inl ((fun _ => 0)))), (aX_shortest, .inl (cyI, 15, .inl ((fun _ => 0)))), (aX_longestTimes, .inl (cyI, 15, .inl ((fun _ => 0))))] H := hP
  have hD : va_D A [(aX, .inr (2, [.int 0, .int 0, .ref aX_clashing, .ref aX_between, .ref aX_leastTimes, .ref aX_mostTimes, .ref aX_phases, .ref aX_members, .ref aX_shortest, .null])), (aX_clashing, .inl (cyI, 6, .inl ((fun _ => 0)))), (aX_between, .inl (cyI, 36, .inl ((fun _ => 0)))), (aX_leastTimes, .inl (cyI, 6, .inl ((fun _ => 0)))), (aX_mostTimes, .inl (cyI, 6, .inl ((fun _ => 0)))), (aX_phases, .inl (cyI, 3, .inl ((fun _ => 0)))), (aX_members, .inl (cyI, 15, .inl ((fun _ => 0)))), (aX_shortest, .inl (cyI, 15, .inl ((fun _ => 0)))), (aX_longestTimes, .inl (cyI, 15, .inl ((fun _ => 0))))] := hD
  refine W.widen (k := 8) (n := 102) (Nat.le_refl _) (Nat.le_refl _) ?_
  refine va_putF (D := (dC, dI)) (ci := 2) (v := .ref aX_longestTimes) (ty := .array .int) (C := RX0) (T := TX0) (N := 10) hx hb hts hinX0 tyX0 tyX0_ok nmX0 hown hK hP hD hS 0 rfl rfl 9 (by decide) hf_33 (fun _ h9 => h9) rfl hinit rfl (by decide +kernel) rfl rfl (Nat.le_of_ble_eq_true rfl) dX0_init_64 (fun H locs hP hD hS => ?_)
  have hP : va_P (dC, dI) vwCl [(aX, .inr (2, [.int 0, .int 0, .ref aX_clashing, .ref aX_between, .ref aX_leastTimes, .ref aX_mostTimes, .ref aX_phases, .ref aX_members, .ref aX_shortest, .ref aX_longestTimes])), (aX_clashing, .inl (cyI, 6, .inl ((fun _ => 0)))), (aX_between, .inl (cyI, 36, .inl ((fun _ => 0)))), (aX_leastTimes, .inl (cyI, 6, .inl ((fun _ => 0)))), (aX_mostTimes, .inl (cyI, 6, .inl ((fun _ => 0)))), (aX_phases, .inl (cyI, 3, .inl ((fun _ => 0)))), (aX_members, .inl (cyI, 15, .inl ((fun _ => 0)))), (aX_shortest, .inl (cyI, 15, .inl ((fun _ => 0)))), (aX_longestTimes, .inl (cyI, 15, .inl ((fun _ => 0))))] H := hP
  have hD : va_D A [(aX, .inr (2, [.int 0, .int 0, .ref aX_clashing, .ref aX_between, .ref aX_leastTimes, .ref aX_mostTimes, .ref aX_phases, .ref aX_members, .ref aX_shortest, .ref aX_longestTimes])), (aX_clashing, .inl (cyI, 6, .inl ((fun _ => 0)))), (aX_between, .inl (cyI, 36, .inl ((fun _ => 0)))), (aX_leastTimes, .inl (cyI, 6, .inl ((fun _ => 0)))), (aX_mostTimes, .inl (cyI, 6, .inl ((fun _ => 0)))), (aX_phases, .inl (cyI, 3, .inl ((fun _ => 0)))), (aX_members, .inl (cyI, 15, .inl ((fun _ => 0)))), (aX_shortest, .inl (cyI, 15, .inl ((fun _ => 0)))), (aX_longestTimes, .inl (cyI, 15, .inl ((fun _ => 0))))] := hD
  have hP := hP.sub (ws' := [(aX, .inr (2, [.int 0, .int 0, .ref aX_clashing, .ref aX_between, .ref aX_leastTimes, .ref aX_mostTimes, .ref aX_phases, .ref aX_members, .ref aX_shortest, .ref aX_longestTimes])), (aX_clashing, .inl (cyI, 6, .inl ((fun _ => 0)))), (aX_between, .inl (cyI, 36, .inl ((fun _ => 0)))), (aX_leastTimes, .inl (cyI, 6, .inl ((fun _ => 0)))), (aX_mostTimes, .inl (cyI, 6, .inl ((fun _ => 0)))), (aX_phases, .inl (cyI, 3, .inl ((fun _ => 0)))), (aX_members, .inl (cyI, 15, .inl ((fun _ => 0)))), (aX_shortest, .inl (cyI, 15, .inl ((fun _ => 0)))), (aX_longestTimes, .inl (cyI, 15, .inl ((fun _ => 0))))]) [0, 1, 2, 3, 4, 5, 6, 7, 8] rfl
  have hD := hD.sub (ws' := [(aX, .inr (2, [.int 0, .int 0, .ref aX_clashing, .ref aX_between, .ref aX_leastTimes, .ref aX_mostTimes, .ref aX_phases, .ref aX_members, .ref aX_shortest, .ref aX_longestTimes])), (aX_clashing, .inl (cyI, 6, .inl ((fun _ => 0)))), (aX_between, .inl (cyI, 36, .inl ((fun _ => 0)))), (aX_leastTimes, .inl (cyI, 6, .inl ((fun _ => 0)))), (aX_mostTimes, .inl (cyI, 6, .inl ((fun _ => 0)))), (aX_phases, .inl (cyI, 3, .inl ((fun _ => 0)))), (aX_members, .inl (cyI, 15, .inl ((fun _ => 0)))), (aX_shortest, .inl (cyI, 15, .inl ((fun _ => 0)))), (aX_longestTimes, .inl (cyI, 15, .inl ((fun _ => 0))))]) [0, 1, 2, 3, 4, 5, 6, 7, 8] (by decide) rfl
  refine W.widen (k := 8) (n := 102) (Nat.le_refl _) (Nat.le_refl _) ?_
  exact W.vret hx hb hr (fun t ht hW => ⟨⟨(), rfl, trivial, aX_clashing, aX_between, aX_leastTimes, aX_mostTimes, aX_phases, aX_members, aX_shortest, aX_longestTimes, by rw [ht]; exact hP, va_K.moved hW.alike hK, hD⟩, hS.F ht⟩) hS.2.2 dX0_init_67
/-! X1_init -/
abbrev rm_X1_init : Room := { frames := 1, cells := 2, slots := 120, locals := 12 }
set_option maxHeartbeats 40000000 in
set_option maxRecDepth 100000 in
theorem c_X1_init (l : Launch) (dC : Nat → ClassId) (dI : Nat → Nat → Nat) (cyI cyJ cyZ : ClassId) (aD : Nat) (sz : Nat) : Met l yX1_init wsX1_init rm_X1_init (va_Pc [.ref aD] (fun U => U.heap.size = sz ∧ va_P (dC, dI) vwCl [(aD, .inr (3, [.int 0, .null, .null]))] U.heap ∧ va_K (dC, dI) vwCl [(cyI, .int), (cyJ, .long), (cyZ, .boolean)] U ∧ va_D (fun _ => True) [(aD, .inr (3, [.int 0, .null, .null]))])) (va_Qv (fun (u : Unit) => True) (fun u t => ∃ (aD_seconds aD_events : Nat), va_P (dC, dI) vwCl [(aD, .inr (3, [.int 0, .ref aD_seconds, .ref aD_events])), (aD_seconds, .inl (cyI, 60, .inl ((fun _ => 0)))), (aD_events, .inl (cyI, 60, .inl ((fun _ => 0))))] t.heap ∧ va_K (dC, dI) vwCl [(cyI, .int), (cyJ, .long), (cyZ, .boolean)] t ∧ va_D (va_A [(aD, .inr (3, [.int 0, .null, .null]))] sz) [(aD, .inr (3, [.int 0, .ref aD_seconds, .ref aD_events])), (aD_seconds, .inl (cyI, 60, .inl ((fun _ => 0)))), (aD_events, .inl (cyI, 60, .inl ((fun _ => 0))))]) (va_A [(aD, .inr (3, [.int 0, .null, .null]))] sz)) 2 120 (va_A [(aD, .inr (3, [.int 0, .null, .null]))] sz) := by
  refine Met.ofW (cc := cX1_init) (maxL := 1) (ret := none) (by decide) rfl ?_
  intro p e s m args below meth c s₁ B hml hv
  obtain ⟨hargs, hsz, hP, hK, hD0⟩ := hv
  have hx := B.exec
  have hb := B.bytes
  have hr := B.returns
  have hts := atoms_spec (ws := wsX1_init) B.pre
  have hown : s.vm.findClass RX1 = some m.cls := findClass_of_methodNamed B.named
  have hlocks := B.notSynchronized
  have hinit : meth.name = "<init>" := (name_of_methodNamed B.named B.method).1
  have hinX1 : ∀ w ∈ u_ws RX1 TX1 3, w ∈ wsX1_init := by decide +kernel
  have hf_9 := hts (.fieldLink RX1 9 "SignalProofs$Diary" "seconds" "[I") (by decide +kernel)
  have hf_15 := hts (.fieldLink RX1 15 "SignalProofs$Diary" "events" "[I") (by decide +kernel)
  have harrI := hts (.arrayClass .int) (by decide +kernel)
  subst hsz
  have hD := hD0.self (sz := s.heap.size)
  generalize hAe : va_A [(aD, .inr (3, [.int 0, .null, .null]))] s.heap.size = A at hD ⊢
  have hA : ∀ q : Nat, s.heap.size ≤ q → A q := fun q h => by rw [← hAe]; exact Or.inr h
  have hS : va_S A s.heap s.heap [] := va_S.rf
  have hP : va_P (dC, dI) vwCl [(aD, .inr (3, [.int 0, .null, .null]))] s.heap := hP
  have hl := lv_entry ([.ref aD]) (n := 1) (Nat.le_of_ble_eq_true rfl)
  rw [hargs, lg_entry_eq, ← hargs]
  generalize (lg_sl ([.ref aD]) ++ List.replicate (1 - (lg_sl ([.ref aD])).length) Slot.unset).toArray = ls at hl ⊢
  have hl : lv_has ls 1 [(0, .ref aD)] := hl
  refine lv_aload_n hx hb dX1_init_0 rfl (lv_at hl 0 rfl) ?_
  refine W.objInit hx hb hown (hts (.methodLink RX1 3 objectInit) (by decide +kernel)) (hts (.instanceMethod objectInit) (by decide +kernel)) (hts _ (List.mem_of_getElem? (i := 3) rfl)) rfl (by rw [hml]; exact hl.1) rfl dX1_init_1 (Nat.le_of_ble_eq_true rfl) (Nat.le_of_ble_eq_true rfl) ?_
  refine W.eq (g2 := F0 m 4 ls []) rfl ?_
  refine lv_aload_n hx hb dX1_init_4 rfl (lv_at hl 0 rfl) ?_
  refine lv_bipush (v := 60) hx hb dX1_init_5 (by decide) ?_
  refine va_newa (atype := .int) (n := 60) (N' := 60) (a0 := (60, .inl (fun _ => 0))) (ty := .int) hx hb harrI rfl hK hP hD hS hA (gk_zI 60) (by decide) (by decide) (Nat.le_of_ble_eq_true rfl) (Nat.le_of_ble_eq_true rfl) (Nat.le_of_ble_eq_true rfl) dX1_init_7 (fun aD_seconds cA H hKn hP hD hS => ?_)
  obtain rfl := gk_arrI hKn
  clear hKn
  have hP : va_P (dC, dI) vwCl [(aD, .inr (3, [.int 0, .null, .null])), (aD_seconds, .inl (cyI, 60, .inl ((fun _ => 0))))] H := hP
  have hD : va_D A [(aD, .inr (3, [.int 0, .null, .null])), (aD_seconds, .inl (cyI, 60, .inl ((fun _ => 0))))] := hD
  refine W.widen (k := 1) (n := 60) (Nat.le_refl _) (Nat.le_refl _) ?_
  refine va_putF (D := (dC, dI)) (ci := 3) (v := .ref aD_seconds) (ty := .array .int) (C := RX1) (T := TX1) (N := 3) hx hb hts hinX1 tyX1 tyX1_ok nmX1 hown hK hP hD hS 0 rfl rfl 1 (by decide) hf_9 (fun _ h9 => h9) rfl hinit rfl (by decide +kernel) rfl rfl (Nat.le_of_ble_eq_true rfl) dX1_init_9 (fun H locs hP hD hS => ?_)
  have hP : va_P (dC, dI) vwCl [(aD, .inr (3, [.int 0, .ref aD_seconds, .null])), (aD_seconds, .inl (cyI, 60, .inl ((fun _ => 0))))] H := hP
  have hD : va_D A [(aD, .inr (3, [.int 0, .ref aD_seconds, .null])), (aD_seconds, .inl (cyI, 60, .inl ((fun _ => 0))))] := hD
  refine lv_aload_n hx hb dX1_init_12 rfl (lv_at hl 0 rfl) ?_
  refine lv_bipush (v := 60) hx hb dX1_init_13 (by decide) ?_
  refine va_newa (atype := .int) (n := 60) (N' := 60) (a0 := (60, .inl (fun _ => 0))) (ty := .int) hx hb harrI rfl hK hP hD hS hA (gk_zI 60) (by decide) (by decide) (Nat.le_of_ble_eq_true rfl) (Nat.le_of_ble_eq_true rfl) (Nat.le_of_ble_eq_true rfl) dX1_init_15 (fun aD_events cA H hKn hP hD hS => ?_)
  obtain rfl := gk_arrI hKn
  clear hKn
  have hP : va_P (dC, dI) vwCl [(aD, .inr (3, [.int 0, .ref aD_seconds, .null])), (aD_seconds, .inl (cyI, 60, .inl ((fun _ => 0)))), (aD_events, .inl (cyI, 60, .inl ((fun _ => 0))))] H := hP
  have hD : va_D A [(aD, .inr (3, [.int 0, .ref aD_seconds, .null])), (aD_seconds, .inl (cyI, 60, .inl ((fun _ => 0)))), (aD_events, .inl (cyI, 60, .inl ((fun _ => 0))))] := hD
  refine W.widen (k := 2) (n := 120) (Nat.le_refl _) (Nat.le_refl _) ?_
  refine va_putF (D := (dC, dI)) (ci := 3) (v := .ref aD_events) (ty := .array .int) (C := RX1) (T := TX1) (N := 3) hx hb hts hinX1 tyX1 tyX1_ok nmX1 hown hK hP hD hS 0 rfl rfl 2 (by decide) hf_15 (fun _ h9 => h9) rfl hinit rfl (by decide +kernel) rfl rfl (Nat.le_of_ble_eq_true rfl) dX1_init_17 (fun H locs hP hD hS => ?_)
  have hP : va_P (dC, dI) vwCl [(aD, .inr (3, [.int 0, .ref aD_seconds, .ref aD_events])), (aD_seconds, .inl (cyI, 60, .inl ((fun _ => 0)))), (aD_events, .inl (cyI, 60, .inl ((fun _ => 0))))] H := hP
  have hD : va_D A [(aD, .inr (3, [.int 0, .ref aD_seconds, .ref aD_events])), (aD_seconds, .inl (cyI, 60, .inl ((fun _ => 0)))), (aD_events, .inl (cyI, 60, .inl ((fun _ => 0))))] := hD
  have hP := hP.sub (ws' := [(aD, .inr (3, [.int 0, .ref aD_seconds, .ref aD_events])), (aD_seconds, .inl (cyI, 60, .inl ((fun _ => 0)))), (aD_events, .inl (cyI, 60, .inl ((fun _ => 0))))]) [0, 1, 2] rfl
  have hD := hD.sub (ws' := [(aD, .inr (3, [.int 0, .ref aD_seconds, .ref aD_events])), (aD_seconds, .inl (cyI, 60, .inl ((fun _ => 0)))), (aD_events, .inl (cyI, 60, .inl ((fun _ => 0))))]) [0, 1, 2] (by decide) rfl
  refine W.widen (k := 2) (n := 120) (Nat.le_refl _) (Nat.le_refl _) ?_
  exact W.vret hx hb hr (fun t ht hW => ⟨⟨(), rfl, trivial, aD_seconds, aD_events, by rw [ht]; exact hP, va_K.moved hW.alike hK, hD⟩, hS.F ht⟩) hS.2.2 dX1_init_20
/-! X2_init -/
abbrev rm_X2_init : Room := { frames := 1, cells := 1, slots := 6, locals := 12 }
set_option maxHeartbeats 40000000 in
set_option maxRecDepth 100000 in
theorem c_X2_init (l : Launch) (dC : Nat → ClassId) (dI : Nat → Nat → Nat) (cyI cyJ cyZ : ClassId) (aM aX : Nat) (sz : Nat) : Met l yX2_init wsX2_init rm_X2_init (va_Pc [.ref aM, .ref aX] (fun U => U.heap.size = sz ∧ va_P (dC, dI) vwCl [(aM, .inr (4, [.null, .null, .int 0, .int 0, .int 0, .int 0, .int 0, .int 0, .int 0, .int 0]))] U.heap ∧ va_K (dC, dI) vwCl [(cyI, .int), (cyJ, .long), (cyZ, .boolean)] U ∧ va_D (fun _ => True) [(aM, .inr (4, [.null, .null, .int 0, .int 0, .int 0, .int 0, .int 0, .int 0, .int 0, .int 0]))])) (va_Qv (fun (u : Unit) => True) (fun u t => ∃ (aM_ages : Nat), va_P (dC, dI) vwCl [(aM, .inr (4, [.ref aX, .ref aM_ages, .int 0, .int 0, .int 0, .int 0, .int 0, .int 0, .int 0, .int 0])), (aM_ages, .inl (cyI, 6, .inl ((fun _ => 0))))] t.heap ∧ va_K (dC, dI) vwCl [(cyI, .int), (cyJ, .long), (cyZ, .boolean)] t ∧ va_D (va_A [(aM, .inr (4, [.null, .null, .int 0, .int 0, .int 0, .int 0, .int 0, .int 0, .int 0, .int 0]))] sz) [(aM, .inr (4, [.ref aX, .ref aM_ages, .int 0, .int 0, .int 0, .int 0, .int 0, .int 0, .int 0, .int 0])), (aM_ages, .inl (cyI, 6, .inl ((fun _ => 0))))]) (va_A [(aM, .inr (4, [.null, .null, .int 0, .int 0, .int 0, .int 0, .int 0, .int 0, .int 0, .int 0]))] sz)) 1 6 (va_A [(aM, .inr (4, [.null, .null, .int 0, .int 0, .int 0, .int 0, .int 0, .int 0, .int 0, .int 0]))] sz) := by
  refine Met.ofW (cc := cX2_init) (maxL := 2) (ret := none) (by decide) rfl ?_
  intro p e s m args below meth c s₁ B hml hv
  obtain ⟨hargs, hsz, hP, hK, hD0⟩ := hv
  have hx := B.exec
  have hb := B.bytes
  have hr := B.returns
  have hts := atoms_spec (ws := wsX2_init) B.pre
  have hown : s.vm.findClass RX2 = some m.cls := findClass_of_methodNamed B.named
  have hlocks := B.notSynchronized
  have hinit : meth.name = "<init>" := (name_of_methodNamed B.named B.method).1
  have hinX2 : ∀ w ∈ u_ws RX2 TX2 10, w ∈ wsX2_init := by decide +kernel
  have hf_11 := hts (.fieldLink RX2 11 "SignalProofs$Machine" "ages" "[I") (by decide +kernel)
  have hf_15 := hts (.fieldLink RX2 15 "SignalProofs$Machine" "crossing" "LSignalProofs$Crossing;") (by decide +kernel)
  have harrI := hts (.arrayClass .int) (by decide +kernel)
  subst hsz
  have hD := hD0.self (sz := s.heap.size)
  generalize hAe : va_A [(aM, .inr (4, [.null, .null, .int 0, .int 0, .int 0, .int 0, .int 0, .int 0, .int 0, .int 0]))] s.heap.size = A at hD ⊢
  have hA : ∀ q : Nat, s.heap.size ≤ q → A q := fun q h => by rw [← hAe]; exact Or.inr h
  have hS : va_S A s.heap s.heap [] := va_S.rf
  have hP : va_P (dC, dI) vwCl [(aM, .inr (4, [.null, .null, .int 0, .int 0, .int 0, .int 0, .int 0, .int 0, .int 0, .int 0]))] s.heap := hP
  have hl := lv_entry ([.ref aM, .ref aX]) (n := 2) (Nat.le_of_ble_eq_true rfl)
  rw [hargs, lg_entry_eq, ← hargs]
  generalize (lg_sl ([.ref aM, .ref aX]) ++ List.replicate (2 - (lg_sl ([.ref aM, .ref aX])).length) Slot.unset).toArray = ls at hl ⊢
  have hl : lv_has ls 2 [(0, .ref aM), (1, .ref aX)] := hl
  refine lv_aload_n hx hb dX2_init_0 rfl (lv_at hl 0 rfl) ?_
  refine W.objInit hx hb hown (hts (.methodLink RX2 5 objectInit) (by decide +kernel)) (hts (.instanceMethod objectInit) (by decide +kernel)) (hts _ (List.mem_of_getElem? (i := 3) rfl)) rfl (by rw [hml]; exact hl.1) rfl dX2_init_1 (Nat.le_of_ble_eq_true rfl) (Nat.le_of_ble_eq_true rfl) ?_
  refine W.eq (g2 := F0 m 4 ls []) rfl ?_
  refine lv_aload_n hx hb dX2_init_4 rfl (lv_at hl 0 rfl) ?_
  refine lv_bipush (v := 6) hx hb dX2_init_5 (by decide) ?_
  refine va_newa (atype := .int) (n := 6) (N' := 6) (a0 := (6, .inl (fun _ => 0))) (ty := .int) hx hb harrI rfl hK hP hD hS hA (gk_zI 6) (by decide) (by decide) (Nat.le_of_ble_eq_true rfl) (Nat.le_of_ble_eq_true rfl) (Nat.le_of_ble_eq_true rfl) dX2_init_7 (fun aM_ages cA H hKn hP hD hS => ?_)
  obtain rfl := gk_arrI hKn
  clear hKn
  have hP : va_P (dC, dI) vwCl [(aM, .inr (4, [.null, .null, .int 0, .int 0, .int 0, .int 0, .int 0, .int 0, .int 0, .int 0])), (aM_ages, .inl (cyI, 6, .inl ((fun _ => 0))))] H := hP
  have hD : va_D A [(aM, .inr (4, [.null, .null, .int 0, .int 0, .int 0, .int 0, .int 0, .int 0, .int 0, .int 0])), (aM_ages, .inl (cyI, 6, .inl ((fun _ => 0))))] := hD
  refine W.widen (k := 1) (n := 6) (Nat.le_refl _) (Nat.le_refl _) ?_
  refine va_putF (D := (dC, dI)) (ci := 4) (v := .ref aM_ages) (ty := .array .int) (C := RX2) (T := TX2) (N := 10) hx hb hts hinX2 tyX2 tyX2_ok nmX2 hown hK hP hD hS 0 rfl rfl 1 (by decide) hf_11 (fun _ h9 => h9) rfl hinit rfl (by decide +kernel) rfl rfl (Nat.le_of_ble_eq_true rfl) dX2_init_9 (fun H locs hP hD hS => ?_)
  have hP : va_P (dC, dI) vwCl [(aM, .inr (4, [.null, .ref aM_ages, .int 0, .int 0, .int 0, .int 0, .int 0, .int 0, .int 0, .int 0])), (aM_ages, .inl (cyI, 6, .inl ((fun _ => 0))))] H := hP
  have hD : va_D A [(aM, .inr (4, [.null, .ref aM_ages, .int 0, .int 0, .int 0, .int 0, .int 0, .int 0, .int 0, .int 0])), (aM_ages, .inl (cyI, 6, .inl ((fun _ => 0))))] := hD
  refine lv_aload_n hx hb dX2_init_12 rfl (lv_at hl 0 rfl) ?_
  refine lv_aload_n hx hb dX2_init_13 rfl (lv_at hl 1 rfl) ?_
  refine va_putF (D := (dC, dI)) (ci := 4) (v := .ref aX) (ty := .object "SignalProofs$Crossing") (C := RX2) (T := TX2) (N := 10) hx hb hts hinX2 tyX2 tyX2_ok nmX2 hown hK hP hD hS 0 rfl rfl 0 (by decide) hf_15 (fun _ h9 => h9) rfl hinit rfl (by decide +kernel) rfl rfl (Nat.le_of_ble_eq_true rfl) dX2_init_14 (fun H locs hP hD hS => ?_)
  have hP : va_P (dC, dI) vwCl [(aM, .inr (4, [.ref aX, .ref aM_ages, .int 0, .int 0, .int 0, .int 0, .int 0, .int 0, .int 0, .int 0])), (aM_ages, .inl (cyI, 6, .inl ((fun _ => 0))))] H := hP
  have hD : va_D A [(aM, .inr (4, [.ref aX, .ref aM_ages, .int 0, .int 0, .int 0, .int 0, .int 0, .int 0, .int 0, .int 0])), (aM_ages, .inl (cyI, 6, .inl ((fun _ => 0))))] := hD
  have hP := hP.sub (ws' := [(aM, .inr (4, [.ref aX, .ref aM_ages, .int 0, .int 0, .int 0, .int 0, .int 0, .int 0, .int 0, .int 0])), (aM_ages, .inl (cyI, 6, .inl ((fun _ => 0))))]) [0, 1] rfl
  have hD := hD.sub (ws' := [(aM, .inr (4, [.ref aX, .ref aM_ages, .int 0, .int 0, .int 0, .int 0, .int 0, .int 0, .int 0, .int 0])), (aM_ages, .inl (cyI, 6, .inl ((fun _ => 0))))]) [0, 1] (by decide) rfl
  refine W.widen (k := 1) (n := 6) (Nat.le_refl _) (Nat.le_refl _) ?_
  exact W.vret hx hb hr (fun t ht hW => ⟨⟨(), rfl, trivial, aM_ages, by rw [ht]; exact hP, va_K.moved hW.alike hK, hD⟩, hS.F ht⟩) hS.2.2 dX2_init_17
/-! X3_init -/
abbrev rm_X3_init : Room := { frames := 1, cells := 4, slots := 75, locals := 12 }
set_option maxHeartbeats 40000000 in
set_option maxRecDepth 100000 in
theorem c_X3_init (l : Launch) (dC : Nat → ClassId) (dI : Nat → Nat → Nat) (cyI cyJ cyZ : ClassId) (aT : Nat) (sz : Nat) : Met l yX3_init wsX3_init rm_X3_init (va_Pc [.ref aT] (fun U => U.heap.size = sz ∧ va_P (dC, dI) vwCl [(aT, .inr (5, [.int 0, .null, .null, .null, .null, .int 0]))] U.heap ∧ va_K (dC, dI) vwCl [(cyI, .int), (cyJ, .long), (cyZ, .boolean)] U ∧ va_D (fun _ => True) [(aT, .inr (5, [.int 0, .null, .null, .null, .null, .int 0]))])) (va_Qv (fun (u : Unit) => True) (fun u t => ∃ (aT_signs aT_members aT_shortest aT_longestTimes : Nat), va_P (dC, dI) vwCl [(aT, .inr (5, [.int 0, .ref aT_signs, .ref aT_members, .ref aT_shortest, .ref aT_longestTimes, .int 0])), (aT_signs, .inl (cyI, 60, .inl ((fun _ => 0)))), (aT_members, .inl (cyI, 5, .inl ((fun _ => 0)))), (aT_shortest, .inl (cyI, 5, .inl ((fun _ => 0)))), (aT_longestTimes, .inl (cyI, 5, .inl ((fun _ => 0))))] t.heap ∧ va_K (dC, dI) vwCl [(cyI, .int), (cyJ, .long), (cyZ, .boolean)] t ∧ va_D (va_A [(aT, .inr (5, [.int 0, .null, .null, .null, .null, .int 0]))] sz) [(aT, .inr (5, [.int 0, .ref aT_signs, .ref aT_members, .ref aT_shortest, .ref aT_longestTimes, .int 0])), (aT_signs, .inl (cyI, 60, .inl ((fun _ => 0)))), (aT_members, .inl (cyI, 5, .inl ((fun _ => 0)))), (aT_shortest, .inl (cyI, 5, .inl ((fun _ => 0)))), (aT_longestTimes, .inl (cyI, 5, .inl ((fun _ => 0))))]) (va_A [(aT, .inr (5, [.int 0, .null, .null, .null, .null, .int 0]))] sz)) 4 75 (va_A [(aT, .inr (5, [.int 0, .null, .null, .null, .null, .int 0]))] sz) := by
  refine Met.ofW (cc := cX3_init) (maxL := 1) (ret := none) (by decide) rfl ?_
  intro p e s m args below meth c s₁ B hml hv
  obtain ⟨hargs, hsz, hP, hK, hD0⟩ := hv
  have hx := B.exec
  have hb := B.bytes
  have hr := B.returns
  have hts := atoms_spec (ws := wsX3_init) B.pre
  have hown : s.vm.findClass RX3 = some m.cls := findClass_of_methodNamed B.named
  have hlocks := B.notSynchronized
  have hinit : meth.name = "<init>" := (name_of_methodNamed B.named B.method).1
  have hinX3 : ∀ w ∈ u_ws RX3 TX3 6, w ∈ wsX3_init := by decide +kernel
  have hf_9 := hts (.fieldLink RX3 9 "SignalProofs$PlanText" "signs" "[I") (by decide +kernel)
  have hf_15 := hts (.fieldLink RX3 15 "SignalProofs$PlanText" "members" "[I") (by decide +kernel)
  have hf_18 := hts (.fieldLink RX3 18 "SignalProofs$PlanText" "shortest" "[I") (by decide +kernel)
  have hf_21 := hts (.fieldLink RX3 21 "SignalProofs$PlanText" "longestTimes" "[I") (by decide +kernel)
  have harrI := hts (.arrayClass .int) (by decide +kernel)
  subst hsz
  have hD := hD0.self (sz := s.heap.size)
  generalize hAe : va_A [(aT, .inr (5, [.int 0, .null, .null, .null, .null, .int 0]))] s.heap.size = A at hD ⊢
  have hA : ∀ q : Nat, s.heap.size ≤ q → A q := fun q h => by rw [← hAe]; exact Or.inr h
  have hS : va_S A s.heap s.heap [] := va_S.rf
  have hP : va_P (dC, dI) vwCl [(aT, .inr (5, [.int 0, .null, .null, .null, .null, .int 0]))] s.heap := hP
  have hl := lv_entry ([.ref aT]) (n := 1) (Nat.le_of_ble_eq_true rfl)
  rw [hargs, lg_entry_eq, ← hargs]
  generalize (lg_sl ([.ref aT]) ++ List.replicate (1 - (lg_sl ([.ref aT])).length) Slot.unset).toArray = ls at hl ⊢
  have hl : lv_has ls 1 [(0, .ref aT)] := hl
  refine lv_aload_n hx hb dX3_init_0 rfl (lv_at hl 0 rfl) ?_
  refine W.objInit hx hb hown (hts (.methodLink RX3 3 objectInit) (by decide +kernel)) (hts (.instanceMethod objectInit) (by decide +kernel)) (hts _ (List.mem_of_getElem? (i := 3) rfl)) rfl (by rw [hml]; exact hl.1) rfl dX3_init_1 (Nat.le_of_ble_eq_true rfl) (Nat.le_of_ble_eq_true rfl) ?_
  refine W.eq (g2 := F0 m 4 ls []) rfl ?_
  refine lv_aload_n hx hb dX3_init_4 rfl (lv_at hl 0 rfl) ?_
  refine lv_bipush (v := 60) hx hb dX3_init_5 (by decide) ?_
  refine va_newa (atype := .int) (n := 60) (N' := 60) (a0 := (60, .inl (fun _ => 0))) (ty := .int) hx hb harrI rfl hK hP hD hS hA (gk_zI 60) (by decide) (by decide) (Nat.le_of_ble_eq_true rfl) (Nat.le_of_ble_eq_true rfl) (Nat.le_of_ble_eq_true rfl) dX3_init_7 (fun aT_signs cA H hKn hP hD hS => ?_)
  obtain rfl := gk_arrI hKn
  clear hKn
  have hP : va_P (dC, dI) vwCl [(aT, .inr (5, [.int 0, .null, .null, .null, .null, .int 0])), (aT_signs, .inl (cyI, 60, .inl ((fun _ => 0))))] H := hP
  have hD : va_D A [(aT, .inr (5, [.int 0, .null, .null, .null, .null, .int 0])), (aT_signs, .inl (cyI, 60, .inl ((fun _ => 0))))] := hD
  refine W.widen (k := 1) (n := 60) (Nat.le_refl _) (Nat.le_refl _) ?_
  refine va_putF (D := (dC, dI)) (ci := 5) (v := .ref aT_signs) (ty := .array .int) (C := RX3) (T := TX3) (N := 6) hx hb hts hinX3 tyX3 tyX3_ok nmX3 hown hK hP hD hS 0 rfl rfl 1 (by decide) hf_9 (fun _ h9 => h9) rfl hinit rfl (by decide +kernel) rfl rfl (Nat.le_of_ble_eq_true rfl) dX3_init_9 (fun H locs hP hD hS => ?_)
  have hP : va_P (dC, dI) vwCl [(aT, .inr (5, [.int 0, .ref aT_signs, .null, .null, .null, .int 0])), (aT_signs, .inl (cyI, 60, .inl ((fun _ => 0))))] H := hP
  have hD : va_D A [(aT, .inr (5, [.int 0, .ref aT_signs, .null, .null, .null, .int 0])), (aT_signs, .inl (cyI, 60, .inl ((fun _ => 0))))] := hD
  refine lv_aload_n hx hb dX3_init_12 rfl (lv_at hl 0 rfl) ?_
  refine lv_iconst (v := 5) hx hb dX3_init_13 (by decide) ?_
  refine va_newa (atype := .int) (n := 5) (N' := 5) (a0 := (5, .inl (fun _ => 0))) (ty := .int) hx hb harrI rfl hK hP hD hS hA (gk_zI 5) (by decide) (by decide) (Nat.le_of_ble_eq_true rfl) (Nat.le_of_ble_eq_true rfl) (Nat.le_of_ble_eq_true rfl) dX3_init_14 (fun aT_members cA H hKn hP hD hS => ?_)
  obtain rfl := gk_arrI hKn
  clear hKn
  have hP : va_P (dC, dI) vwCl [(aT, .inr (5, [.int 0, .ref aT_signs, .null, .null, .null, .int 0])), (aT_signs, .inl (cyI, 60, .inl ((fun _ => 0)))), (aT_members, .inl (cyI, 5, .inl ((fun _ => 0))))] H := hP
  have hD : va_D A [(aT, .inr (5, [.int 0, .ref aT_signs, .null, .null, .null, .int 0])), (aT_signs, .inl (cyI, 60, .inl ((fun _ => 0)))), (aT_members, .inl (cyI, 5, .inl ((fun _ => 0))))] := hD
  refine W.widen (k := 2) (n := 65) (Nat.le_refl _) (Nat.le_refl _) ?_
  refine va_putF (D := (dC, dI)) (ci := 5) (v := .ref aT_members) (ty := .array .int) (C := RX3) (T := TX3) (N := 6) hx hb hts hinX3 tyX3 tyX3_ok nmX3 hown hK hP hD hS 0 rfl rfl 2 (by decide) hf_15 (fun _ h9 => h9) rfl hinit rfl (by decide +kernel) rfl rfl (Nat.le_of_ble_eq_true rfl) dX3_init_16 (fun H locs hP hD hS => ?_)
  have hP : va_P (dC, dI) vwCl [(aT, .inr (5, [.int 0, .ref aT_signs, .ref aT_members, .null, .null, .int 0])), (aT_signs, .inl (cyI, 60, .inl ((fun _ => 0)))), (aT_members, .inl (cyI, 5, .inl ((fun _ => 0))))] H := hP
  have hD : va_D A [(aT, .inr (5, [.int 0, .ref aT_signs, .ref aT_members, .null, .null, .int 0])), (aT_signs, .inl (cyI, 60, .inl ((fun _ => 0)))), (aT_members, .inl (cyI, 5, .inl ((fun _ => 0))))] := hD
  refine lv_aload_n hx hb dX3_init_19 rfl (lv_at hl 0 rfl) ?_
  refine lv_iconst (v := 5) hx hb dX3_init_20 (by decide) ?_
  refine va_newa (atype := .int) (n := 5) (N' := 5) (a0 := (5, .inl (fun _ => 0))) (ty := .int) hx hb harrI rfl hK hP hD hS hA (gk_zI 5) (by decide) (by decide) (Nat.le_of_ble_eq_true rfl) (Nat.le_of_ble_eq_true rfl) (Nat.le_of_ble_eq_true rfl) dX3_init_21 (fun aT_shortest cA H hKn hP hD hS => ?_)
  obtain rfl := gk_arrI hKn
  clear hKn
  have hP : va_P (dC, dI) vwCl [(aT, .inr (5, [.int 0, .ref aT_signs, .ref aT_members, .null, .null, .int 0])), (aT_signs, .inl (cyI, 60, .inl ((fun _ => 0)))), (aT_members, .inl (cyI, 5, .inl ((fun _ => 0)))), (aT_shortest, .inl (cyI, 5, .inl ((fun _ => 0))))] H := hP
  have hD : va_D A [(aT, .inr (5, [.int 0, .ref aT_signs, .ref aT_members, .null, .null, .int 0])), (aT_signs, .inl (cyI, 60, .inl ((fun _ => 0)))), (aT_members, .inl (cyI, 5, .inl ((fun _ => 0)))), (aT_shortest, .inl (cyI, 5, .inl ((fun _ => 0))))] := hD
  refine W.widen (k := 3) (n := 70) (Nat.le_refl _) (Nat.le_refl _) ?_
  refine va_putF (D := (dC, dI)) (ci := 5) (v := .ref aT_shortest) (ty := .array .int) (C := RX3) (T := TX3) (N := 6) hx hb hts hinX3 tyX3 tyX3_ok nmX3 hown hK hP hD hS 0 rfl rfl 3 (by decide) hf_18 (fun _ h9 => h9) rfl hinit rfl (by decide +kernel) rfl rfl (Nat.le_of_ble_eq_true rfl) dX3_init_23 (fun H locs hP hD hS => ?_)
  have hP : va_P (dC, dI) vwCl [(aT, .inr (5, [.int 0, .ref aT_signs, .ref aT_members, .ref aT_shortest, .null, .int 0])), (aT_signs, .inl (cyI, 60, .inl ((fun _ => 0)))), (aT_members, .inl (cyI, 5, .inl ((fun _ => 0)))), (aT_shortest, .inl (cyI, 5, .inl ((fun _ => 0))))] H := hP
  have hD : va_D A [(aT, .inr (5, [.int 0, .ref aT_signs, .ref aT_members, .ref aT_shortest, .null, .int 0])), (aT_signs, .inl (cyI, 60, .inl ((fun _ => 0)))), (aT_members, .inl (cyI, 5, .inl ((fun _ => 0)))), (aT_shortest, .inl (cyI, 5, .inl ((fun _ => 0))))] := hD
  refine lv_aload_n hx hb dX3_init_26 rfl (lv_at hl 0 rfl) ?_
  refine lv_iconst (v := 5) hx hb dX3_init_27 (by decide) ?_
  refine va_newa (atype := .int) (n := 5) (N' := 5) (a0 := (5, .inl (fun _ => 0))) (ty := .int) hx hb harrI rfl hK hP hD hS hA (gk_zI 5) (by decide) (by decide) (Nat.le_of_ble_eq_true rfl) (Nat.le_of_ble_eq_true rfl) (Nat.le_of_ble_eq_true rfl) dX3_init_28 (fun aT_longestTimes cA H hKn hP hD hS => ?_)
  obtain rfl := gk_arrI hKn
  clear hKn
  have hP : va_P (dC, dI) vwCl [(aT, .inr (5, [.int 0, .ref aT_signs, .ref aT_members, .ref aT_shortest, .null, .int 0])), (aT_signs, .inl (cyI, 60, .inl ((fun _ => 0)))), (aT_members, .inl (cyI, 5, .inl ((fun _ => 0)))), (aT_shortest, .inl (cyI, 5, .inl ((fun _ => 0)))), (aT_longestTimes, .inl (cyI, 5, .inl ((fun _ => 0))))] H := hP
  have hD : va_D A [(aT, .inr (5, [.int 0, .ref aT_signs, .ref aT_members, .ref aT_shortest, .null, .int 0])), (aT_signs, .inl (cyI, 60, .inl ((fun _ => 0)))), (aT_members, .inl (cyI, 5, .inl ((fun _ => 0)))), (aT_shortest, .inl (cyI, 5, .inl ((fun _ => 0)))), (aT_longestTimes, .inl (cyI, 5, .inl ((fun _ => 0))))] := hD
  refine W.widen (k := 4) (n := 75) (Nat.le_refl _) (Nat.le_refl _) ?_
  refine va_putF (D := (dC, dI)) (ci := 5) (v := .ref aT_longestTimes) (ty := .array .int) (C := RX3) (T := TX3) (N := 6) hx hb hts hinX3 tyX3 tyX3_ok nmX3 hown hK hP hD hS 0 rfl rfl 4 (by decide) hf_21 (fun _ h9 => h9) rfl hinit rfl (by decide +kernel) rfl rfl (Nat.le_of_ble_eq_true rfl) dX3_init_30 (fun H locs hP hD hS => ?_)
  have hP : va_P (dC, dI) vwCl [(aT, .inr (5, [.int 0, .ref aT_signs, .ref aT_members, .ref aT_shortest, .ref aT_longestTimes, .int 0])), (aT_signs, .inl (cyI, 60, .inl ((fun _ => 0)))), (aT_members, .inl (cyI, 5, .inl ((fun _ => 0)))), (aT_shortest, .inl (cyI, 5, .inl ((fun _ => 0)))), (aT_longestTimes, .inl (cyI, 5, .inl ((fun _ => 0))))] H := hP
  have hD : va_D A [(aT, .inr (5, [.int 0, .ref aT_signs, .ref aT_members, .ref aT_shortest, .ref aT_longestTimes, .int 0])), (aT_signs, .inl (cyI, 60, .inl ((fun _ => 0)))), (aT_members, .inl (cyI, 5, .inl ((fun _ => 0)))), (aT_shortest, .inl (cyI, 5, .inl ((fun _ => 0)))), (aT_longestTimes, .inl (cyI, 5, .inl ((fun _ => 0))))] := hD
  have hP := hP.sub (ws' := [(aT, .inr (5, [.int 0, .ref aT_signs, .ref aT_members, .ref aT_shortest, .ref aT_longestTimes, .int 0])), (aT_signs, .inl (cyI, 60, .inl ((fun _ => 0)))), (aT_members, .inl (cyI, 5, .inl ((fun _ => 0)))), (aT_shortest, .inl (cyI, 5, .inl ((fun _ => 0)))), (aT_longestTimes, .inl (cyI, 5, .inl ((fun _ => 0))))]) [0, 1, 2, 3, 4] rfl
  have hD := hD.sub (ws' := [(aT, .inr (5, [.int 0, .ref aT_signs, .ref aT_members, .ref aT_shortest, .ref aT_longestTimes, .int 0])), (aT_signs, .inl (cyI, 60, .inl ((fun _ => 0)))), (aT_members, .inl (cyI, 5, .inl ((fun _ => 0)))), (aT_shortest, .inl (cyI, 5, .inl ((fun _ => 0)))), (aT_longestTimes, .inl (cyI, 5, .inl ((fun _ => 0))))]) [0, 1, 2, 3, 4] (by decide) rfl
  refine W.widen (k := 4) (n := 75) (Nat.le_refl _) (Nat.le_refl _) ?_
  exact W.vret hx hb hr (fun t ht hW => ⟨⟨(), rfl, trivial, aT_signs, aT_members, aT_shortest, aT_longestTimes, by rw [ht]; exact hP, va_K.moved hW.alike hK, hD⟩, hS.F ht⟩) hS.2.2 dX3_init_33
/-! X5_init -/
abbrev rm_X5_init : Room := { frames := 1, cells := 4, slots := 5200, locals := 12 }
set_option maxHeartbeats 40000000 in
set_option maxRecDepth 100000 in
theorem c_X5_init (l : Launch) (dC : Nat → ClassId) (dI : Nat → Nat → Nat) (cyI cyJ cyZ : ClassId) (aG : Nat) (sz : Nat) : Met l yX5_init wsX5_init rm_X5_init (va_Pc [.ref aG] (fun U => U.heap.size = sz ∧ va_P (dC, dI) vwCl [(aG, .inr (7, [.null, .null, .null, .null]))] U.heap ∧ va_K (dC, dI) vwCl [(cyI, .int), (cyJ, .long), (cyZ, .boolean)] U ∧ va_D (fun _ => True) [(aG, .inr (7, [.null, .null, .null, .null]))])) (va_Qv (fun (u : Unit) => True) (fun u t => ∃ (aG_nexts aG_unfollowed aG_depths aG_queue : Nat), va_P (dC, dI) vwCl [(aG, .inr (7, [.ref aG_nexts, .ref aG_unfollowed, .ref aG_depths, .ref aG_queue])), (aG_nexts, .inl (cyI, 4000, .inl ((fun _ => 0)))), (aG_unfollowed, .inl (cyI, 400, .inl ((fun _ => 0)))), (aG_depths, .inl (cyI, 400, .inl ((fun _ => 0)))), (aG_queue, .inl (cyI, 400, .inl ((fun _ => 0))))] t.heap ∧ va_K (dC, dI) vwCl [(cyI, .int), (cyJ, .long), (cyZ, .boolean)] t ∧ va_D (va_A [(aG, .inr (7, [.null, .null, .null, .null]))] sz) [(aG, .inr (7, [.ref aG_nexts, .ref aG_unfollowed, .ref aG_depths, .ref aG_queue])), (aG_nexts, .inl (cyI, 4000, .inl ((fun _ => 0)))), (aG_unfollowed, .inl (cyI, 400, .inl ((fun _ => 0)))), (aG_depths, .inl (cyI, 400, .inl ((fun _ => 0)))), (aG_queue, .inl (cyI, 400, .inl ((fun _ => 0))))]) (va_A [(aG, .inr (7, [.null, .null, .null, .null]))] sz)) 4 5200 (va_A [(aG, .inr (7, [.null, .null, .null, .null]))] sz) := by
  refine Met.ofW (cc := cX5_init) (maxL := 1) (ret := none) (by decide) rfl ?_
  intro p e s m args below meth c s₁ B hml hv
  obtain ⟨hargs, hsz, hP, hK, hD0⟩ := hv
  have hx := B.exec
  have hb := B.bytes
  have hr := B.returns
  have hts := atoms_spec (ws := wsX5_init) B.pre
  have hown : s.vm.findClass RX5 = some m.cls := findClass_of_methodNamed B.named
  have hlocks := B.notSynchronized
  have hinit : meth.name = "<init>" := (name_of_methodNamed B.named B.method).1
  have hinX5 : ∀ w ∈ u_ws RX5 TX5 4, w ∈ wsX5_init := by decide +kernel
  have hf_9 := hts (.fieldLink RX5 9 "SignalProofs$WaitGraph" "nexts" "[I") (by decide +kernel)
  have hf_15 := hts (.fieldLink RX5 15 "SignalProofs$WaitGraph" "unfollowed" "[I") (by decide +kernel)
  have hf_18 := hts (.fieldLink RX5 18 "SignalProofs$WaitGraph" "depths" "[I") (by decide +kernel)
  have hf_21 := hts (.fieldLink RX5 21 "SignalProofs$WaitGraph" "queue" "[I") (by decide +kernel)
  have harrI := hts (.arrayClass .int) (by decide +kernel)
  subst hsz
  have hD := hD0.self (sz := s.heap.size)
  generalize hAe : va_A [(aG, .inr (7, [.null, .null, .null, .null]))] s.heap.size = A at hD ⊢
  have hA : ∀ q : Nat, s.heap.size ≤ q → A q := fun q h => by rw [← hAe]; exact Or.inr h
  have hS : va_S A s.heap s.heap [] := va_S.rf
  have hP : va_P (dC, dI) vwCl [(aG, .inr (7, [.null, .null, .null, .null]))] s.heap := hP
  have hl := lv_entry ([.ref aG]) (n := 1) (Nat.le_of_ble_eq_true rfl)
  rw [hargs, lg_entry_eq, ← hargs]
  generalize (lg_sl ([.ref aG]) ++ List.replicate (1 - (lg_sl ([.ref aG])).length) Slot.unset).toArray = ls at hl ⊢
  have hl : lv_has ls 1 [(0, .ref aG)] := hl
  refine lv_aload_n hx hb dX5_init_0 rfl (lv_at hl 0 rfl) ?_
  refine W.objInit hx hb hown (hts (.methodLink RX5 3 objectInit) (by decide +kernel)) (hts (.instanceMethod objectInit) (by decide +kernel)) (hts _ (List.mem_of_getElem? (i := 3) rfl)) rfl (by rw [hml]; exact hl.1) rfl dX5_init_1 (Nat.le_of_ble_eq_true rfl) (Nat.le_of_ble_eq_true rfl) ?_
  refine W.eq (g2 := F0 m 4 ls []) rfl ?_
  refine lv_aload_n hx hb dX5_init_4 rfl (lv_at hl 0 rfl) ?_
  refine lv_sipush (v := 4000) hx hb dX5_init_5 (by decide) ?_
  refine va_newa (atype := .int) (n := 4000) (N' := 4000) (a0 := (4000, .inl (fun _ => 0))) (ty := .int) hx hb harrI rfl hK hP hD hS hA (gk_zI 4000) (by decide) (by decide) (Nat.le_of_ble_eq_true rfl) (Nat.le_of_ble_eq_true rfl) (Nat.le_of_ble_eq_true rfl) dX5_init_8 (fun aG_nexts cA H hKn hP hD hS => ?_)
  obtain rfl := gk_arrI hKn
  clear hKn
  have hP : va_P (dC, dI) vwCl [(aG, .inr (7, [.null, .null, .null, .null])), (aG_nexts, .inl (cyI, 4000, .inl ((fun _ => 0))))] H := hP
  have hD : va_D A [(aG, .inr (7, [.null, .null, .null, .null])), (aG_nexts, .inl (cyI, 4000, .inl ((fun _ => 0))))] := hD
  refine W.widen (k := 1) (n := 4000) (Nat.le_refl _) (Nat.le_refl _) ?_
  refine va_putF (D := (dC, dI)) (ci := 7) (v := .ref aG_nexts) (ty := .array .int) (C := RX5) (T := TX5) (N := 4) hx hb hts hinX5 tyX5 tyX5_ok nmX5 hown hK hP hD hS 0 rfl rfl 0 (by decide) hf_9 (fun _ h9 => h9) rfl hinit rfl (by decide +kernel) rfl rfl (Nat.le_of_ble_eq_true rfl) dX5_init_10 (fun H locs hP hD hS => ?_)
  have hP : va_P (dC, dI) vwCl [(aG, .inr (7, [.ref aG_nexts, .null, .null, .null])), (aG_nexts, .inl (cyI, 4000, .inl ((fun _ => 0))))] H := hP
  have hD : va_D A [(aG, .inr (7, [.ref aG_nexts, .null, .null, .null])), (aG_nexts, .inl (cyI, 4000, .inl ((fun _ => 0))))] := hD
  refine lv_aload_n hx hb dX5_init_13 rfl (lv_at hl 0 rfl) ?_
  refine lv_sipush (v := 400) hx hb dX5_init_14 (by decide) ?_
  refine va_newa (atype := .int) (n := 400) (N' := 400) (a0 := (400, .inl (fun _ => 0))) (ty := .int) hx hb harrI rfl hK hP hD hS hA (gk_zI 400) (by decide) (by decide) (Nat.le_of_ble_eq_true rfl) (Nat.le_of_ble_eq_true rfl) (Nat.le_of_ble_eq_true rfl) dX5_init_17 (fun aG_unfollowed cA H hKn hP hD hS => ?_)
  obtain rfl := gk_arrI hKn
  clear hKn
  have hP : va_P (dC, dI) vwCl [(aG, .inr (7, [.ref aG_nexts, .null, .null, .null])), (aG_nexts, .inl (cyI, 4000, .inl ((fun _ => 0)))), (aG_unfollowed, .inl (cyI, 400, .inl ((fun _ => 0))))] H := hP
  have hD : va_D A [(aG, .inr (7, [.ref aG_nexts, .null, .null, .null])), (aG_nexts, .inl (cyI, 4000, .inl ((fun _ => 0)))), (aG_unfollowed, .inl (cyI, 400, .inl ((fun _ => 0))))] := hD
  refine W.widen (k := 2) (n := 4400) (Nat.le_refl _) (Nat.le_refl _) ?_
  refine va_putF (D := (dC, dI)) (ci := 7) (v := .ref aG_unfollowed) (ty := .array .int) (C := RX5) (T := TX5) (N := 4) hx hb hts hinX5 tyX5 tyX5_ok nmX5 hown hK hP hD hS 0 rfl rfl 1 (by decide) hf_15 (fun _ h9 => h9) rfl hinit rfl (by decide +kernel) rfl rfl (Nat.le_of_ble_eq_true rfl) dX5_init_19 (fun H locs hP hD hS => ?_)
  have hP : va_P (dC, dI) vwCl [(aG, .inr (7, [.ref aG_nexts, .ref aG_unfollowed, .null, .null])), (aG_nexts, .inl (cyI, 4000, .inl ((fun _ => 0)))), (aG_unfollowed, .inl (cyI, 400, .inl ((fun _ => 0))))] H := hP
  have hD : va_D A [(aG, .inr (7, [.ref aG_nexts, .ref aG_unfollowed, .null, .null])), (aG_nexts, .inl (cyI, 4000, .inl ((fun _ => 0)))), (aG_unfollowed, .inl (cyI, 400, .inl ((fun _ => 0))))] := hD
  refine lv_aload_n hx hb dX5_init_22 rfl (lv_at hl 0 rfl) ?_
  refine lv_sipush (v := 400) hx hb dX5_init_23 (by decide) ?_
  refine va_newa (atype := .int) (n := 400) (N' := 400) (a0 := (400, .inl (fun _ => 0))) (ty := .int) hx hb harrI rfl hK hP hD hS hA (gk_zI 400) (by decide) (by decide) (Nat.le_of_ble_eq_true rfl) (Nat.le_of_ble_eq_true rfl) (Nat.le_of_ble_eq_true rfl) dX5_init_26 (fun aG_depths cA H hKn hP hD hS => ?_)
  obtain rfl := gk_arrI hKn
  clear hKn
  have hP : va_P (dC, dI) vwCl [(aG, .inr (7, [.ref aG_nexts, .ref aG_unfollowed, .null, .null])), (aG_nexts, .inl (cyI, 4000, .inl ((fun _ => 0)))), (aG_unfollowed, .inl (cyI, 400, .inl ((fun _ => 0)))), (aG_depths, .inl (cyI, 400, .inl ((fun _ => 0))))] H := hP
  have hD : va_D A [(aG, .inr (7, [.ref aG_nexts, .ref aG_unfollowed, .null, .null])), (aG_nexts, .inl (cyI, 4000, .inl ((fun _ => 0)))), (aG_unfollowed, .inl (cyI, 400, .inl ((fun _ => 0)))), (aG_depths, .inl (cyI, 400, .inl ((fun _ => 0))))] := hD
  refine W.widen (k := 3) (n := 4800) (Nat.le_refl _) (Nat.le_refl _) ?_
  refine va_putF (D := (dC, dI)) (ci := 7) (v := .ref aG_depths) (ty := .array .int) (C := RX5) (T := TX5) (N := 4) hx hb hts hinX5 tyX5 tyX5_ok nmX5 hown hK hP hD hS 0 rfl rfl 2 (by decide) hf_18 (fun _ h9 => h9) rfl hinit rfl (by decide +kernel) rfl rfl (Nat.le_of_ble_eq_true rfl) dX5_init_28 (fun H locs hP hD hS => ?_)
  have hP : va_P (dC, dI) vwCl [(aG, .inr (7, [.ref aG_nexts, .ref aG_unfollowed, .ref aG_depths, .null])), (aG_nexts, .inl (cyI, 4000, .inl ((fun _ => 0)))), (aG_unfollowed, .inl (cyI, 400, .inl ((fun _ => 0)))), (aG_depths, .inl (cyI, 400, .inl ((fun _ => 0))))] H := hP
  have hD : va_D A [(aG, .inr (7, [.ref aG_nexts, .ref aG_unfollowed, .ref aG_depths, .null])), (aG_nexts, .inl (cyI, 4000, .inl ((fun _ => 0)))), (aG_unfollowed, .inl (cyI, 400, .inl ((fun _ => 0)))), (aG_depths, .inl (cyI, 400, .inl ((fun _ => 0))))] := hD
  refine lv_aload_n hx hb dX5_init_31 rfl (lv_at hl 0 rfl) ?_
  refine lv_sipush (v := 400) hx hb dX5_init_32 (by decide) ?_
  refine va_newa (atype := .int) (n := 400) (N' := 400) (a0 := (400, .inl (fun _ => 0))) (ty := .int) hx hb harrI rfl hK hP hD hS hA (gk_zI 400) (by decide) (by decide) (Nat.le_of_ble_eq_true rfl) (Nat.le_of_ble_eq_true rfl) (Nat.le_of_ble_eq_true rfl) dX5_init_35 (fun aG_queue cA H hKn hP hD hS => ?_)
  obtain rfl := gk_arrI hKn
  clear hKn
  have hP : va_P (dC, dI) vwCl [(aG, .inr (7, [.ref aG_nexts, .ref aG_unfollowed, .ref aG_depths, .null])), (aG_nexts, .inl (cyI, 4000, .inl ((fun _ => 0)))), (aG_unfollowed, .inl (cyI, 400, .inl ((fun _ => 0)))), (aG_depths, .inl (cyI, 400, .inl ((fun _ => 0)))), (aG_queue, .inl (cyI, 400, .inl ((fun _ => 0))))] H := hP
  have hD : va_D A [(aG, .inr (7, [.ref aG_nexts, .ref aG_unfollowed, .ref aG_depths, .null])), (aG_nexts, .inl (cyI, 4000, .inl ((fun _ => 0)))), (aG_unfollowed, .inl (cyI, 400, .inl ((fun _ => 0)))), (aG_depths, .inl (cyI, 400, .inl ((fun _ => 0)))), (aG_queue, .inl (cyI, 400, .inl ((fun _ => 0))))] := hD
  refine W.widen (k := 4) (n := 5200) (Nat.le_refl _) (Nat.le_refl _) ?_
  refine va_putF (D := (dC, dI)) (ci := 7) (v := .ref aG_queue) (ty := .array .int) (C := RX5) (T := TX5) (N := 4) hx hb hts hinX5 tyX5 tyX5_ok nmX5 hown hK hP hD hS 0 rfl rfl 3 (by decide) hf_21 (fun _ h9 => h9) rfl hinit rfl (by decide +kernel) rfl rfl (Nat.le_of_ble_eq_true rfl) dX5_init_37 (fun H locs hP hD hS => ?_)
  have hP : va_P (dC, dI) vwCl [(aG, .inr (7, [.ref aG_nexts, .ref aG_unfollowed, .ref aG_depths, .ref aG_queue])), (aG_nexts, .inl (cyI, 4000, .inl ((fun _ => 0)))), (aG_unfollowed, .inl (cyI, 400, .inl ((fun _ => 0)))), (aG_depths, .inl (cyI, 400, .inl ((fun _ => 0)))), (aG_queue, .inl (cyI, 400, .inl ((fun _ => 0))))] H := hP
  have hD : va_D A [(aG, .inr (7, [.ref aG_nexts, .ref aG_unfollowed, .ref aG_depths, .ref aG_queue])), (aG_nexts, .inl (cyI, 4000, .inl ((fun _ => 0)))), (aG_unfollowed, .inl (cyI, 400, .inl ((fun _ => 0)))), (aG_depths, .inl (cyI, 400, .inl ((fun _ => 0)))), (aG_queue, .inl (cyI, 400, .inl ((fun _ => 0))))] := hD
  have hP := hP.sub (ws' := [(aG, .inr (7, [.ref aG_nexts, .ref aG_unfollowed, .ref aG_depths, .ref aG_queue])), (aG_nexts, .inl (cyI, 4000, .inl ((fun _ => 0)))), (aG_unfollowed, .inl (cyI, 400, .inl ((fun _ => 0)))), (aG_depths, .inl (cyI, 400, .inl ((fun _ => 0)))), (aG_queue, .inl (cyI, 400, .inl ((fun _ => 0))))]) [0, 1, 2, 3, 4] rfl
  have hD := hD.sub (ws' := [(aG, .inr (7, [.ref aG_nexts, .ref aG_unfollowed, .ref aG_depths, .ref aG_queue])), (aG_nexts, .inl (cyI, 4000, .inl ((fun _ => 0)))), (aG_unfollowed, .inl (cyI, 400, .inl ((fun _ => 0)))), (aG_depths, .inl (cyI, 400, .inl ((fun _ => 0)))), (aG_queue, .inl (cyI, 400, .inl ((fun _ => 0))))]) [0, 1, 2, 3, 4] (by decide) rfl
  refine W.widen (k := 4) (n := 5200) (Nat.le_refl _) (Nat.le_refl _) ?_
  exact W.vret hx hb hr (fun t ht hW => ⟨⟨(), rfl, trivial, aG_nexts, aG_unfollowed, aG_depths, aG_queue, by rw [ht]; exact hP, va_K.moved hW.alike hK, hD⟩, hS.F ht⟩) hS.2.2 dX5_init_40
