/-! X1_find -/
noncomputable def m_X1_find_L2 (F : Nat) (zD : Int32) (zD_seconds : Nat → Int32)  (n : Nat) : (Int32) → (Int32) → Option (Int32) := Nat.rec (motive := fun _ => (Int32) → (Int32) → Option (Int32)) (fun _ _ => none) (fun _ ih => fun x1 x2 => (if zD ≤ x2 then (some ((-1))) else (gk_ck x2 60 ((if (zD_seconds x2.toNatClampNeg) = x1 then (some x2) else ih x1 (x2 + 1)))))) n
noncomputable def m_X1_find (F : Nat) (p1 : Int32) (zD : Int32) (zD_seconds : Nat → Int32) : Option (Int32) := m_X1_find_L2 F zD zD_seconds F p1 0
abbrev rm_X1_find : Room := { frames := 0, cells := 0, slots := 0, locals := 0 }
set_option maxHeartbeats 40000000 in
set_option maxRecDepth 100000 in
theorem c_X1_find (l : Launch) (dC : Nat → ClassId) (dI : Nat → Nat → Nat) (cyI cyJ cyZ : ClassId) (F : Nat) (aD aD_seconds aD_events : Nat) (sz : Nat) (p1 : Int32) (zD : Int32) (zD_seconds : Nat → Int32) (r0 : Int32) (h : m_X1_find F p1 zD zD_seconds = some r0) : Met l yX1_find wsX1_find rm_X1_find (va_Pc [.ref aD, .int p1] (fun U => U.heap.size = sz ∧ va_P (dC, dI) vwCl [(aD, .inr (3, [.int zD, .ref aD_seconds, .ref aD_events])), (aD_seconds, .inl (cyI, 60, .inl zD_seconds))] U.heap ∧ va_K (dC, dI) vwCl [(cyI, .int), (cyJ, .long), (cyZ, .boolean)] U ∧ va_D (fun _ => True) [(aD, .inr (3, [.int zD, .ref aD_seconds, .ref aD_events])), (aD_seconds, .inl (cyI, 60, .inl zD_seconds))])) (va_Qi (fun (r : Int32) (u : Unit) => r = r0) (fun u t => va_P (dC, dI) vwCl [(aD, .inr (3, [.int zD, .ref aD_seconds, .ref aD_events])), (aD_seconds, .inl (cyI, 60, .inl zD_seconds))] t.heap ∧ va_K (dC, dI) vwCl [(cyI, .int), (cyJ, .long), (cyZ, .boolean)] t ∧ va_D (va_A [(aD, .inr (3, [.int zD, .ref aD_seconds, .ref aD_events])), (aD_seconds, .inl (cyI, 60, .inl zD_seconds))] sz) [(aD, .inr (3, [.int zD, .ref aD_seconds, .ref aD_events])), (aD_seconds, .inl (cyI, 60, .inl zD_seconds))]) (va_A [(aD, .inr (3, [.int zD, .ref aD_seconds, .ref aD_events])), (aD_seconds, .inl (cyI, 60, .inl zD_seconds))] sz)) 0 0 (va_A [(aD, .inr (3, [.int zD, .ref aD_seconds, .ref aD_events])), (aD_seconds, .inl (cyI, 60, .inl zD_seconds))] sz) := by
  refine Met.ofW (cc := cX1_find) (maxL := 3) (ret := (some .int)) (by decide) rfl ?_
  intro p e s m args below meth c s₁ B hml hv
  obtain ⟨hargs, hsz, hP, hK, hD0⟩ := hv
  have hx := B.exec
  have hb := B.bytes
  have hr := B.returns
  have hts := atoms_spec (ws := wsX1_find) B.pre
  have hown : s.vm.findClass RX1 = some m.cls := findClass_of_methodNamed B.named
  have hlocks := B.notSynchronized
  have hinX1 : ∀ w ∈ u_ws RX1 TX1 3, w ∈ wsX1_find := by decide +kernel
  have hf_18 := hts (.fieldLink RX1 18 "SignalProofs$Diary" "count" "I") (by decide +kernel)
  have hf_9 := hts (.fieldLink RX1 9 "SignalProofs$Diary" "seconds" "[I") (by decide +kernel)
  subst hsz
  have hD := hD0.self (sz := s.heap.size)
  generalize hAe : va_A [(aD, .inr (3, [.int zD, .ref aD_seconds, .ref aD_events])), (aD_seconds, .inl (cyI, 60, .inl zD_seconds))] s.heap.size = A at hD ⊢
  have hA : ∀ q : Nat, s.heap.size ≤ q → A q := fun q h => by rw [← hAe]; exact Or.inr h
  have hS : va_S A s.heap s.heap [] := va_S.rf
  have hret : ∀ (H : Heap) (locs : List Loc) (r : Int32) (u : Unit), r = r0 → va_P (dC, dI) vwCl [(aD, .inr (3, [.int zD, .ref aD_seconds, .ref aD_events])), (aD_seconds, .inl (cyI, 60, .inl zD_seconds))] H → va_D A [(aD, .inr (3, [.int zD, .ref aD_seconds, .ref aD_events])), (aD_seconds, .inl (cyI, 60, .inl zD_seconds))] → va_S A s.heap H locs → ∀ t : State, t.heap = H → s.WarmedH t.vm → (va_Qi (fun (r : Int32) (u : Unit) => r = r0) (fun u t => va_P (dC, dI) vwCl [(aD, .inr (3, [.int zD, .ref aD_seconds, .ref aD_events])), (aD_seconds, .inl (cyI, 60, .inl zD_seconds))] t.heap ∧ va_K (dC, dI) vwCl [(cyI, .int), (cyJ, .long), (cyZ, .boolean)] t ∧ va_D A [(aD, .inr (3, [.int zD, .ref aD_seconds, .ref aD_events])), (aD_seconds, .inl (cyI, 60, .inl zD_seconds))]) A) args s (.returned (some (.int r))) t := fun H locs r u hu hP hD hS t ht hW => ⟨⟨r, u, rfl, hu, by rw [ht]; exact hP, va_K.moved hW.alike hK, hD⟩, hS.F ht⟩
  generalize hQc : va_Qi (fun (r : Int32) (u : Unit) => r = r0) (fun u t => va_P (dC, dI) vwCl [(aD, .inr (3, [.int zD, .ref aD_seconds, .ref aD_events])), (aD_seconds, .inl (cyI, 60, .inl zD_seconds))] t.heap ∧ va_K (dC, dI) vwCl [(cyI, .int), (cyJ, .long), (cyZ, .boolean)] t ∧ va_D A [(aD, .inr (3, [.int zD, .ref aD_seconds, .ref aD_events])), (aD_seconds, .inl (cyI, 60, .inl zD_seconds))]) A = Qc at hret ⊢
  have hl := lv_entry ([.ref aD, .int p1]) (n := 3) (Nat.le_of_ble_eq_true rfl)
  rw [hargs, lg_entry_eq, ← hargs]
  generalize (lg_sl ([.ref aD, .int p1]) ++ List.replicate (3 - (lg_sl ([.ref aD, .int p1])).length) Slot.unset).toArray = ls at hl ⊢
  have hl : lv_has ls 3 [(0, .ref aD), (1, .int p1)] := hl
  have w_L2 : ∀  (n : Nat), ∀ (x1 : Int32) (x2 : Int32), (m_X1_find_L2 F zD zD_seconds n) x1 x2 = some r0 → ∀ (H : Heap) (locs : List Loc) (ls : Array Slot), va_P (dC, dI) vwCl [(aD, .inr (3, [.int zD, .ref aD_seconds, .ref aD_events])), (aD_seconds, .inl (cyI, 60, .inl zD_seconds))] H → va_D A [(aD, .inr (3, [.int zD, .ref aD_seconds, .ref aD_events])), (aD_seconds, .inl (cyI, 60, .inl zD_seconds))] → va_S A s.heap H locs → lv_has ls 3 [(0, .ref aD), (1, .int x1), (2, .int x2)] → W p l e (headSpec wsX1_find rm_X1_find).room s m args below meth c H locs 0 0 (MQ below Qc args s 0 0 A) (F0 m 2 ls []) := by
    intro n
    induction n with
    | zero =>
      intro x1 x2 h
      exact nomatch h
    | succ n ih =>
      intro x1 x2 h H locs ls hP hD hS hl
      have h : (if zD ≤ x2 then (some ((-1))) else (gk_ck x2 60 ((if (zD_seconds x2.toNatClampNeg) = x1 then (some x2) else (m_X1_find_L2 F zD zD_seconds n) x1 (x2 + 1))))) = some r0 := h
      refine lv_iload_n hx hb dX1_find_2 rfl (lv_at hl 2 rfl) ?_
      refine lv_aload_n hx hb dX1_find_3 rfl (lv_at hl 0 rfl) ?_
      refine va_get (D := (dC, dI)) (ci := 3) (v := .int zD) (C := RX1) (T := TX1) (N := 3) hx hb hts hinX1 hown hK hP 0 rfl rfl 0 (by decide) hf_18 (fun _ h9 => h9) rfl dX1_find_4 ?_
      refine lv_icmp_ge (tgt := 28) hx hb dX1_find_7 (by decide) (fun c_1 => ?_) (fun c_1 => ?_)
      · have h := gk_mt c_1 h
        refine lv_iconst (v := (-1)) hx hb dX1_find_28 (by decide) ?_
        exact W.iret hx hb hr (hret _ _ ((-1)) (()) (Option.some.inj h) hP hD hS) hS.2.2 dX1_find_29
      · have h := gk_mf c_1 h
        refine lv_aload_n hx hb dX1_find_10 rfl (lv_at hl 0 rfl) ?_
        refine va_get (D := (dC, dI)) (ci := 3) (v := .ref aD_seconds) (C := RX1) (T := TX1) (N := 3) hx hb hts hinX1 hown hK hP 0 rfl rfl 1 (by decide) hf_9 (fun _ h9 => h9) rfl dX1_find_11 ?_
        refine lv_iload_n hx hb dX1_find_14 rfl (lv_at hl 2 rfl) ?_
        obtain ⟨c_2, h⟩ := gk_ck_s h
        refine va_iald hx hb hK hP 1 0 rfl rfl c_2 dX1_find_15 ?_
        refine lv_iload_n hx hb dX1_find_16 rfl (lv_at hl 1 rfl) ?_
        refine lv_icmp_ne (tgt := 22) hx hb dX1_find_17 (by decide) (fun c_3 => ?_) (fun c_3 => ?_)
        · have h := gk_mf c_3 h
          refine lv_iinc (v := x2 + 1) (lv' := [(2, .int (x2 + 1)), (0, .ref aD), (1, .int x1)]) hx hb dX1_find_22 hl (k := 2) rfl rfl (by decide) rfl (fun ls hl => ?_)
          refine lv_goto (tgt := 2) hx hb dX1_find_25 (by decide) ?_
          exact ih x1 (x2 + 1) h _ _ _ hP hD hS (lv_sub hl [1, 2, 0] rfl)
        · have h := gk_mt c_3 h
          refine lv_iload_n hx hb dX1_find_20 rfl (lv_at hl 2 rfl) ?_
          exact W.iret hx hb hr (hret _ _ x2 (()) (Option.some.inj h) hP hD hS) hS.2.2 dX1_find_21
  have h : m_X1_find_L2 F zD zD_seconds F p1 0 = some r0 := h
  have hH : True := trivial
  refine lv_iconst (v := 0) hx hb dX1_find_0 (by decide) ?_
  refine lv_istore_n (lv' := [(2, .int 0), (0, .ref aD), (1, .int p1)]) hx hb dX1_find_1 rfl hl (by decide) rfl (fun ls hl => ?_)
  exact w_L2 F p1 0 h _ _ _ hP hD hS (lv_sub hl [1, 2, 0] rfl)
/-! X1_add -/
noncomputable def m_X1_add (F : Nat) (p1 : Int32) (p2 : Int32) (zD : Int32) (zD_seconds : Nat → Int32) (zD_events : Nat → Int32) : Option (Int32 × ((Int32) × (Nat → Int32) × (Nat → Int32))) := (if 60 ≤ zD then (some ((0, (zD, zD_seconds, zD_events)))) else (gk_bd (m_X1_find F p1 zD zD_seconds) (fun v2 => (if v2 < 0 then (gk_ck zD 60 ((gk_ck zD 60 ((some ((1, (zD + 1, upd zD_seconds zD.toNatClampNeg p1, upd zD_events zD.toNatClampNeg p2)))))))) else (some ((0, (zD, zD_seconds, zD_events))))))))
abbrev rm_X1_add : Room := { frames := 1, cells := 0, slots := 0, locals := 22 }
set_option maxHeartbeats 40000000 in
set_option maxRecDepth 100000 in
theorem c_X1_add (l : Launch) (dC : Nat → ClassId) (dI : Nat → Nat → Nat) (cyI cyJ cyZ : ClassId) (F : Nat) (aD aD_seconds aD_events : Nat) (sz : Nat) (p1 : Int32) (p2 : Int32) (zD : Int32) (zD_seconds : Nat → Int32) (zD_events : Nat → Int32) (r0 : Int32 × ((Int32) × (Nat → Int32) × (Nat → Int32))) (h : m_X1_add F p1 p2 zD zD_seconds zD_events = some r0) : Met l yX1_add wsX1_add rm_X1_add (va_Pc [.ref aD, .int p1, .int p2] (fun U => U.heap.size = sz ∧ va_P (dC, dI) vwCl [(aD, .inr (3, [.int zD, .ref aD_seconds, .ref aD_events])), (aD_seconds, .inl (cyI, 60, .inl zD_seconds)), (aD_events, .inl (cyI, 60, .inl zD_events))] U.heap ∧ va_K (dC, dI) vwCl [(cyI, .int), (cyJ, .long), (cyZ, .boolean)] U ∧ va_D (fun _ => True) [(aD, .inr (3, [.int zD, .ref aD_seconds, .ref aD_events])), (aD_seconds, .inl (cyI, 60, .inl zD_seconds)), (aD_events, .inl (cyI, 60, .inl zD_events))])) (va_Qi (fun (r : Int32) (u : (Int32) × (Nat → Int32) × (Nat → Int32)) => (r, u) = r0) (fun u t => va_P (dC, dI) vwCl [(aD, .inr (3, [.int u.1, .ref aD_seconds, .ref aD_events])), (aD_seconds, .inl (cyI, 60, .inl u.2.1)), (aD_events, .inl (cyI, 60, .inl u.2.2))] t.heap ∧ va_K (dC, dI) vwCl [(cyI, .int), (cyJ, .long), (cyZ, .boolean)] t ∧ va_D (va_A [(aD, .inr (3, [.int zD, .ref aD_seconds, .ref aD_events])), (aD_seconds, .inl (cyI, 60, .inl zD_seconds)), (aD_events, .inl (cyI, 60, .inl zD_events))] sz) [(aD, .inr (3, [.int u.1, .ref aD_seconds, .ref aD_events])), (aD_seconds, .inl (cyI, 60, .inl u.2.1)), (aD_events, .inl (cyI, 60, .inl u.2.2))]) (va_A [(aD, .inr (3, [.int zD, .ref aD_seconds, .ref aD_events])), (aD_seconds, .inl (cyI, 60, .inl zD_seconds)), (aD_events, .inl (cyI, 60, .inl zD_events))] sz)) 0 0 (va_A [(aD, .inr (3, [.int zD, .ref aD_seconds, .ref aD_events])), (aD_seconds, .inl (cyI, 60, .inl zD_seconds)), (aD_events, .inl (cyI, 60, .inl zD_events))] sz) := by
  refine Met.ofW (cc := cX1_add) (maxL := 3) (ret := (some .boolean)) (by decide) rfl ?_
  intro p e s m args below meth c s₁ B hml hv
  obtain ⟨hargs, hsz, hP, hK, hD0⟩ := hv
  have hx := B.exec
  have hb := B.bytes
  have hr := B.returns
  have hts := atoms_spec (ws := wsX1_add) B.pre
  have hown : s.vm.findClass RX1 = some m.cls := findClass_of_methodNamed B.named
  have hlocks := B.notSynchronized
  have hinX1 : ∀ w ∈ u_ws RX1 TX1 3, w ∈ wsX1_add := by decide +kernel
  have hf_18 := hts (.fieldLink RX1 18 "SignalProofs$Diary" "count" "I") (by decide +kernel)
  have hf_9 := hts (.fieldLink RX1 9 "SignalProofs$Diary" "seconds" "[I") (by decide +kernel)
  have hf_15 := hts (.fieldLink RX1 15 "SignalProofs$Diary" "events" "[I") (by decide +kernel)
  subst hsz
  have hD := hD0.self (sz := s.heap.size)
  generalize hAe : va_A [(aD, .inr (3, [.int zD, .ref aD_seconds, .ref aD_events])), (aD_seconds, .inl (cyI, 60, .inl zD_seconds)), (aD_events, .inl (cyI, 60, .inl zD_events))] s.heap.size = A at hD ⊢
  have hA : ∀ q : Nat, s.heap.size ≤ q → A q := fun q h => by rw [← hAe]; exact Or.inr h
  have hS : va_S A s.heap s.heap [] := va_S.rf
  have hret : ∀ (H : Heap) (locs : List Loc) (r : Int32) (u : (Int32) × (Nat → Int32) × (Nat → Int32)), (r, u) = r0 → va_P (dC, dI) vwCl [(aD, .inr (3, [.int u.1, .ref aD_seconds, .ref aD_events])), (aD_seconds, .inl (cyI, 60, .inl u.2.1)), (aD_events, .inl (cyI, 60, .inl u.2.2))] H → va_D A [(aD, .inr (3, [.int u.1, .ref aD_seconds, .ref aD_events])), (aD_seconds, .inl (cyI, 60, .inl u.2.1)), (aD_events, .inl (cyI, 60, .inl u.2.2))] → va_S A s.heap H locs → ∀ t : State, t.heap = H → s.WarmedH t.vm → (va_Qi (fun (r : Int32) (u : (Int32) × (Nat → Int32) × (Nat → Int32)) => (r, u) = r0) (fun u t => va_P (dC, dI) vwCl [(aD, .inr (3, [.int u.1, .ref aD_seconds, .ref aD_events])), (aD_seconds, .inl (cyI, 60, .inl u.2.1)), (aD_events, .inl (cyI, 60, .inl u.2.2))] t.heap ∧ va_K (dC, dI) vwCl [(cyI, .int), (cyJ, .long), (cyZ, .boolean)] t ∧ va_D A [(aD, .inr (3, [.int u.1, .ref aD_seconds, .ref aD_events])), (aD_seconds, .inl (cyI, 60, .inl u.2.1)), (aD_events, .inl (cyI, 60, .inl u.2.2))]) A) args s (.returned (some (.int r))) t := fun H locs r u hu hP hD hS t ht hW => ⟨⟨r, u, rfl, hu, by rw [ht]; exact hP, va_K.moved hW.alike hK, hD⟩, hS.F ht⟩
  generalize hQc : va_Qi (fun (r : Int32) (u : (Int32) × (Nat → Int32) × (Nat → Int32)) => (r, u) = r0) (fun u t => va_P (dC, dI) vwCl [(aD, .inr (3, [.int u.1, .ref aD_seconds, .ref aD_events])), (aD_seconds, .inl (cyI, 60, .inl u.2.1)), (aD_events, .inl (cyI, 60, .inl u.2.2))] t.heap ∧ va_K (dC, dI) vwCl [(cyI, .int), (cyJ, .long), (cyZ, .boolean)] t ∧ va_D A [(aD, .inr (3, [.int u.1, .ref aD_seconds, .ref aD_events])), (aD_seconds, .inl (cyI, 60, .inl u.2.1)), (aD_events, .inl (cyI, 60, .inl u.2.2))]) A = Qc at hret ⊢
  have hl := lv_entry ([.ref aD, .int p1, .int p2]) (n := 3) (Nat.le_of_ble_eq_true rfl)
  rw [hargs, lg_entry_eq, ← hargs]
  generalize (lg_sl ([.ref aD, .int p1, .int p2]) ++ List.replicate (3 - (lg_sl ([.ref aD, .int p1, .int p2])).length) Slot.unset).toArray = ls at hl ⊢
  have hl : lv_has ls 3 [(0, .ref aD), (1, .int p1), (2, .int p2)] := hl
  have h : (if 60 ≤ zD then (some ((0, (zD, zD_seconds, zD_events)))) else (gk_bd (m_X1_find F p1 zD zD_seconds) (fun v2 => (if v2 < 0 then (gk_ck zD 60 ((gk_ck zD 60 ((some ((1, (zD + 1, upd zD_seconds zD.toNatClampNeg p1, upd zD_events zD.toNatClampNeg p2)))))))) else (some ((0, (zD, zD_seconds, zD_events)))))))) = some r0 := h
  have hH : True := trivial
  refine lv_aload_n hx hb dX1_add_0 rfl (lv_at hl 0 rfl) ?_
  refine va_get (D := (dC, dI)) (ci := 3) (v := .int zD) (C := RX1) (T := TX1) (N := 3) hx hb hts hinX1 hown hK hP 0 rfl rfl 0 (by decide) hf_18 (fun _ h9 => h9) rfl dX1_add_1 ?_
  refine lv_bipush (v := 60) hx hb dX1_add_4 (by decide) ?_
  refine lv_icmp_ge (tgt := 17) hx hb dX1_add_6 (by decide) (fun c_1 => ?_) (fun c_1 => ?_)
  · have h := gk_mt c_1 h
    refine lv_iconst (v := 0) hx hb dX1_add_17 (by decide) ?_
    exact W.zret hx hb hr rfl (hret _ _ 0 ((zD, zD_seconds, zD_events)) (Option.some.inj h) hP hD hS) hS.2.2 dX1_add_18
  · have h := gk_mf c_1 h
    refine lv_aload_n hx hb dX1_add_9 rfl (lv_at hl 0 rfl) ?_
    refine lv_iload_n hx hb dX1_add_10 rfl (lv_at hl 1 rfl) ?_
    obtain ⟨v2, hc_2, h⟩ := gk_bd_s h
    have hPc := hP.sub (ws' := [(aD, .inr (3, [.int zD, .ref aD_seconds, .ref aD_events])), (aD_seconds, .inl (cyI, 60, .inl zD_seconds))]) [0, 1] rfl
    have hDc := hD.sub (ws' := [(aD, .inr (3, [.int zD, .ref aD_seconds, .ref aD_events])), (aD_seconds, .inl (cyI, 60, .inl zD_seconds))]) [0, 1] (by decide) rfl
    have hFc := va_free (wc := [(aD, .inr (3, [.int zD, .ref aD_seconds, .ref aD_events])), (aD_seconds, .inl (cyI, 60, .inl zD_seconds))]) hD hS hA [0, 1] rfl
    refine va_calli (va_runV (As := [.int p1]) (rest := []) ⟨hx, hb, hml, hown, hts⟩ (c_X1_find l dC dI cyI cyJ cyZ F aD aD_seconds aD_events s.heap.size p1 zD zD_seconds v2 hc_2) (cwV 1 hts gX1_add_X1_find rfl rfl rfl (by decide +kernel) ⟨Nat.le_of_ble_eq_true rfl, Nat.le_of_ble_eq_true rfl⟩) ⟨fun a U g mk q => by obtain ⟨q0, q1, qP, qK, qD⟩ := q; exact ⟨q0, q1, qP, va_K.moved (u := U) (U := U.calling g mk a) (Vm.Alike.refl U.vm) qK, qD⟩, va_recv hK hP (ci := 3) (q0 := 0) rfl rfl, fun U hU hW => ⟨rfl, by rw [hU], by rw [hU]; exact hPc, va_K.moved hW.alike hK, hDc.weaken (fun _ _ _ _ => trivial)⟩⟩ rfl rfl hl.1 rfl (lv_room (Nat.le_of_ble_eq_true rfl)) dX1_add_11 ⟨Nat.zero_le _, Nat.zero_le _⟩) hS (fun q _ h => hFc q h) hFc (fun r_2 u_2 t_2 H1 locs ht hvm hw hB hz1 hk1 hS => ?_)
    have hw := hw.symm; subst hw
    obtain ⟨hP1, hK1, hD1⟩ := hB
    rw [ht] at hP1
    obtain ⟨hP, hD⟩ := va_join (wr := [(aD_events, .inl (cyI, 60, .inl zD_events))]) (w1 := [(aD, .inr (3, [.int zD, .ref aD_seconds, .ref aD_events])), (aD_seconds, .inl (cyI, 60, .inl zD_seconds))]) hP hD [0, 1] [2] rfl rfl (by decide) (by decide) hk1 hFc hP1 hD1
    generalize H1 = H at hP hS ⊢
    have hP := hP.sub (ws' := [(aD, .inr (3, [.int zD, .ref aD_seconds, .ref aD_events])), (aD_seconds, .inl (cyI, 60, .inl zD_seconds)), (aD_events, .inl (cyI, 60, .inl zD_events))]) [1, 2, 0] rfl
    have hD := hD.sub (ws' := [(aD, .inr (3, [.int zD, .ref aD_seconds, .ref aD_events])), (aD_seconds, .inl (cyI, 60, .inl zD_seconds)), (aD_events, .inl (cyI, 60, .inl zD_events))]) [1, 2, 0] (by decide) rfl
    clear hPc hDc hFc hP1 hK1 hD1
    refine lv_if_lt (tgt := 19) hx hb dX1_add_14 (by decide) (fun c_3 => ?_) (fun c_3 => ?_)
    · have h := gk_mt c_3 h
      refine lv_aload_n hx hb dX1_add_19 rfl (lv_at hl 0 rfl) ?_
      refine va_get (D := (dC, dI)) (ci := 3) (v := .ref aD_seconds) (C := RX1) (T := TX1) (N := 3) hx hb hts hinX1 hown hK hP 0 rfl rfl 1 (by decide) hf_9 (fun _ h9 => h9) rfl dX1_add_20 ?_
      refine lv_aload_n hx hb dX1_add_23 rfl (lv_at hl 0 rfl) ?_
      refine va_get (D := (dC, dI)) (ci := 3) (v := .int zD) (C := RX1) (T := TX1) (N := 3) hx hb hts hinX1 hown hK hP 0 rfl rfl 0 (by decide) hf_18 (fun _ h9 => h9) rfl dX1_add_24 ?_
      refine lv_iload_n hx hb dX1_add_27 rfl (lv_at hl 1 rfl) ?_
      obtain ⟨c_4, h⟩ := gk_ck_s h
      refine va_iast hx hb hK hP hD hS 1 0 rfl rfl c_4 dX1_add_28 (fun H locs hP hD hS => ?_)
      have hP : va_P (dC, dI) vwCl [(aD, .inr (3, [.int zD, .ref aD_seconds, .ref aD_events])), (aD_seconds, .inl (cyI, 60, .inl (upd zD_seconds zD.toNatClampNeg p1))), (aD_events, .inl (cyI, 60, .inl zD_events))] H := hP
      have hD : va_D A [(aD, .inr (3, [.int zD, .ref aD_seconds, .ref aD_events])), (aD_seconds, .inl (cyI, 60, .inl (upd zD_seconds zD.toNatClampNeg p1))), (aD_events, .inl (cyI, 60, .inl zD_events))] := hD
      refine lv_aload_n hx hb dX1_add_29 rfl (lv_at hl 0 rfl) ?_
      refine va_get (D := (dC, dI)) (ci := 3) (v := .ref aD_events) (C := RX1) (T := TX1) (N := 3) hx hb hts hinX1 hown hK hP 0 rfl rfl 2 (by decide) hf_15 (fun _ h9 => h9) rfl dX1_add_30 ?_
      refine lv_aload_n hx hb dX1_add_33 rfl (lv_at hl 0 rfl) ?_
      refine va_get (D := (dC, dI)) (ci := 3) (v := .int zD) (C := RX1) (T := TX1) (N := 3) hx hb hts hinX1 hown hK hP 0 rfl rfl 0 (by decide) hf_18 (fun _ h9 => h9) rfl dX1_add_34 ?_
      refine lv_iload_n hx hb dX1_add_37 rfl (lv_at hl 2 rfl) ?_
      obtain ⟨c_5, h⟩ := gk_ck_s h
      refine va_iast hx hb hK hP hD hS 2 0 rfl rfl c_5 dX1_add_38 (fun H locs hP hD hS => ?_)
      have hP : va_P (dC, dI) vwCl [(aD, .inr (3, [.int zD, .ref aD_seconds, .ref aD_events])), (aD_seconds, .inl (cyI, 60, .inl (upd zD_seconds zD.toNatClampNeg p1))), (aD_events, .inl (cyI, 60, .inl (upd zD_events zD.toNatClampNeg p2)))] H := hP
      have hD : va_D A [(aD, .inr (3, [.int zD, .ref aD_seconds, .ref aD_events])), (aD_seconds, .inl (cyI, 60, .inl (upd zD_seconds zD.toNatClampNeg p1))), (aD_events, .inl (cyI, 60, .inl (upd zD_events zD.toNatClampNeg p2)))] := hD
      refine lv_aload_n hx hb dX1_add_39 rfl (lv_at hl 0 rfl) ?_
      refine lv_dup hx hb dX1_add_40 rfl ?_
      refine va_get (D := (dC, dI)) (ci := 3) (v := .int zD) (C := RX1) (T := TX1) (N := 3) hx hb hts hinX1 hown hK hP 0 rfl rfl 0 (by decide) hf_18 (fun _ h9 => h9) rfl dX1_add_41 ?_
      refine lv_iconst (v := 1) hx hb dX1_add_44 (by decide) ?_
      refine lv_iadd hx hb dX1_add_45 ?_
      refine va_put (D := (dC, dI)) (ci := 3) (v := .int (zD + 1)) (ty := .int) (C := RX1) (T := TX1) (N := 3) hx hb hts hinX1 tyX1 tyX1_ok nmX1 hown hK hP hD hS 0 rfl rfl 0 (by decide) hf_18 (fun _ h9 => h9) rfl (by decide +kernel) rfl rfl (Nat.le_of_ble_eq_true rfl) dX1_add_46 (fun H locs hP hD hS => ?_)
      have hP : va_P (dC, dI) vwCl [(aD, .inr (3, [.int (zD + 1), .ref aD_seconds, .ref aD_events])), (aD_seconds, .inl (cyI, 60, .inl (upd zD_seconds zD.toNatClampNeg p1))), (aD_events, .inl (cyI, 60, .inl (upd zD_events zD.toNatClampNeg p2)))] H := hP
      have hD : va_D A [(aD, .inr (3, [.int (zD + 1), .ref aD_seconds, .ref aD_events])), (aD_seconds, .inl (cyI, 60, .inl (upd zD_seconds zD.toNatClampNeg p1))), (aD_events, .inl (cyI, 60, .inl (upd zD_events zD.toNatClampNeg p2)))] := hD
      refine lv_iconst (v := 1) hx hb dX1_add_49 (by decide) ?_
      exact W.zret hx hb hr rfl (hret _ _ 1 ((zD + 1, upd zD_seconds zD.toNatClampNeg p1, upd zD_events zD.toNatClampNeg p2)) (Option.some.inj h) hP hD hS) hS.2.2 dX1_add_50
    · have h := gk_mf c_3 h
      refine lv_iconst (v := 0) hx hb dX1_add_17 (by decide) ?_
      exact W.zret hx hb hr rfl (hret _ _ 0 ((zD, zD_seconds, zD_events)) (Option.some.inj h) hP hD hS) hS.2.2 dX1_add_18
/-! X1_eventOf -/
noncomputable def m_X1_eventOf (F : Nat) (p1 : Int32) (zD : Int32) (zD_seconds : Nat → Int32) (zD_events : Nat → Int32) : Option (Int32) := (gk_bd (m_X1_find F p1 zD zD_seconds) (fun v1 => (if v1 < 0 then (some 0) else (gk_ck v1 60 ((some (zD_events v1.toNatClampNeg)))))))
abbrev rm_X1_eventOf : Room := { frames := 1, cells := 0, slots := 0, locals := 22 }
set_option maxHeartbeats 40000000 in
set_option maxRecDepth 100000 in
theorem c_X1_eventOf (l : Launch) (dC : Nat → ClassId) (dI : Nat → Nat → Nat) (cyI cyJ cyZ : ClassId) (F : Nat) (aD aD_seconds aD_events : Nat) (sz : Nat) (p1 : Int32) (zD : Int32) (zD_seconds : Nat → Int32) (zD_events : Nat → Int32) (r0 : Int32) (h : m_X1_eventOf F p1 zD zD_seconds zD_events = some r0) : Met l yX1_eventOf wsX1_eventOf rm_X1_eventOf (va_Pc [.ref aD, .int p1] (fun U => U.heap.size = sz ∧ va_P (dC, dI) vwCl [(aD, .inr (3, [.int zD, .ref aD_seconds, .ref aD_events])), (aD_seconds, .inl (cyI, 60, .inl zD_seconds)), (aD_events, .inl (cyI, 60, .inl zD_events))] U.heap ∧ va_K (dC, dI) vwCl [(cyI, .int), (cyJ, .long), (cyZ, .boolean)] U ∧ va_D (fun _ => True) [(aD, .inr (3, [.int zD, .ref aD_seconds, .ref aD_events])), (aD_seconds, .inl (cyI, 60, .inl zD_seconds)), (aD_events, .inl (cyI, 60, .inl zD_events))])) (va_Qi (fun (r : Int32) (u : Unit) => r = r0) (fun u t => va_P (dC, dI) vwCl [(aD, .inr (3, [.int zD, .ref aD_seconds, .ref aD_events])), (aD_seconds, .inl (cyI, 60, .inl zD_seconds)), (aD_events, .inl (cyI, 60, .inl zD_events))] t.heap ∧ va_K (dC, dI) vwCl [(cyI, .int), (cyJ, .long), (cyZ, .boolean)] t ∧ va_D (va_A [(aD, .inr (3, [.int zD, .ref aD_seconds, .ref aD_events])), (aD_seconds, .inl (cyI, 60, .inl zD_seconds)), (aD_events, .inl (cyI, 60, .inl zD_events))] sz) [(aD, .inr (3, [.int zD, .ref aD_seconds, .ref aD_events])), (aD_seconds, .inl (cyI, 60, .inl zD_seconds)), (aD_events, .inl (cyI, 60, .inl zD_events))]) (va_A [(aD, .inr (3, [.int zD, .ref aD_seconds, .ref aD_events])), (aD_seconds, .inl (cyI, 60, .inl zD_seconds)), (aD_events, .inl (cyI, 60, .inl zD_events))] sz)) 0 0 (va_A [(aD, .inr (3, [.int zD, .ref aD_seconds, .ref aD_events])), (aD_seconds, .inl (cyI, 60, .inl zD_seconds)), (aD_events, .inl (cyI, 60, .inl zD_events))] sz) := by
  refine Met.ofW (cc := cX1_eventOf) (maxL := 3) (ret := (some .int)) (by decide) rfl ?_
  intro p e s m args below meth c s₁ B hml hv
  obtain ⟨hargs, hsz, hP, hK, hD0⟩ := hv
  have hx := B.exec
  have hb := B.bytes
  have hr := B.returns
  have hts := atoms_spec (ws := wsX1_eventOf) B.pre
  have hown : s.vm.findClass RX1 = some m.cls := findClass_of_methodNamed B.named
  have hlocks := B.notSynchronized
  have hinX1 : ∀ w ∈ u_ws RX1 TX1 3, w ∈ wsX1_eventOf := by decide +kernel
  have hf_15 := hts (.fieldLink RX1 15 "SignalProofs$Diary" "events" "[I") (by decide +kernel)
  subst hsz
  have hD := hD0.self (sz := s.heap.size)
  generalize hAe : va_A [(aD, .inr (3, [.int zD, .ref aD_seconds, .ref aD_events])), (aD_seconds, .inl (cyI, 60, .inl zD_seconds)), (aD_events, .inl (cyI, 60, .inl zD_events))] s.heap.size = A at hD ⊢
  have hA : ∀ q : Nat, s.heap.size ≤ q → A q := fun q h => by rw [← hAe]; exact Or.inr h
  have hS : va_S A s.heap s.heap [] := va_S.rf
  have hret : ∀ (H : Heap) (locs : List Loc) (r : Int32) (u : Unit), r = r0 → va_P (dC, dI) vwCl [(aD, .inr (3, [.int zD, .ref aD_seconds, .ref aD_events])), (aD_seconds, .inl (cyI, 60, .inl zD_seconds)), (aD_events, .inl (cyI, 60, .inl zD_events))] H → va_D A [(aD, .inr (3, [.int zD, .ref aD_seconds, .ref aD_events])), (aD_seconds, .inl (cyI, 60, .inl zD_seconds)), (aD_events, .inl (cyI, 60, .inl zD_events))] → va_S A s.heap H locs → ∀ t : State, t.heap = H → s.WarmedH t.vm → (va_Qi (fun (r : Int32) (u : Unit) => r = r0) (fun u t => va_P (dC, dI) vwCl [(aD, .inr (3, [.int zD, .ref aD_seconds, .ref aD_events])), (aD_seconds, .inl (cyI, 60, .inl zD_seconds)), (aD_events, .inl (cyI, 60, .inl zD_events))] t.heap ∧ va_K (dC, dI) vwCl [(cyI, .int), (cyJ, .long), (cyZ, .boolean)] t ∧ va_D A [(aD, .inr (3, [.int zD, .ref aD_seconds, .ref aD_events])), (aD_seconds, .inl (cyI, 60, .inl zD_seconds)), (aD_events, .inl (cyI, 60, .inl zD_events))]) A) args s (.returned (some (.int r))) t := fun H locs r u hu hP hD hS t ht hW => ⟨⟨r, u, rfl, hu, by rw [ht]; exact hP, va_K.moved hW.alike hK, hD⟩, hS.F ht⟩
  generalize hQc : va_Qi (fun (r : Int32) (u : Unit) => r = r0) (fun u t => va_P (dC, dI) vwCl [(aD, .inr (3, [.int zD, .ref aD_seconds, .ref aD_events])), (aD_seconds, .inl (cyI, 60, .inl zD_seconds)), (aD_events, .inl (cyI, 60, .inl zD_events))] t.heap ∧ va_K (dC, dI) vwCl [(cyI, .int), (cyJ, .long), (cyZ, .boolean)] t ∧ va_D A [(aD, .inr (3, [.int zD, .ref aD_seconds, .ref aD_events])), (aD_seconds, .inl (cyI, 60, .inl zD_seconds)), (aD_events, .inl (cyI, 60, .inl zD_events))]) A = Qc at hret ⊢
  have hl := lv_entry ([.ref aD, .int p1]) (n := 3) (Nat.le_of_ble_eq_true rfl)
  rw [hargs, lg_entry_eq, ← hargs]
  generalize (lg_sl ([.ref aD, .int p1]) ++ List.replicate (3 - (lg_sl ([.ref aD, .int p1])).length) Slot.unset).toArray = ls at hl ⊢
  have hl : lv_has ls 3 [(0, .ref aD), (1, .int p1)] := hl
  have h : (gk_bd (m_X1_find F p1 zD zD_seconds) (fun v1 => (if v1 < 0 then (some 0) else (gk_ck v1 60 ((some (zD_events v1.toNatClampNeg))))))) = some r0 := h
  have hH : True := trivial
  refine lv_aload_n hx hb dX1_eventOf_0 rfl (lv_at hl 0 rfl) ?_
  refine lv_iload_n hx hb dX1_eventOf_1 rfl (lv_at hl 1 rfl) ?_
  obtain ⟨v1, hc_1, h⟩ := gk_bd_s h
  have hPc := hP.sub (ws' := [(aD, .inr (3, [.int zD, .ref aD_seconds, .ref aD_events])), (aD_seconds, .inl (cyI, 60, .inl zD_seconds))]) [0, 1] rfl
  have hDc := hD.sub (ws' := [(aD, .inr (3, [.int zD, .ref aD_seconds, .ref aD_events])), (aD_seconds, .inl (cyI, 60, .inl zD_seconds))]) [0, 1] (by decide) rfl
  have hFc := va_free (wc := [(aD, .inr (3, [.int zD, .ref aD_seconds, .ref aD_events])), (aD_seconds, .inl (cyI, 60, .inl zD_seconds))]) hD hS hA [0, 1] rfl
  refine va_calli (va_runV (As := [.int p1]) (rest := []) ⟨hx, hb, hml, hown, hts⟩ (c_X1_find l dC dI cyI cyJ cyZ F aD aD_seconds aD_events s.heap.size p1 zD zD_seconds v1 hc_1) (cwV 1 hts gX1_eventOf_X1_find rfl rfl rfl (by decide +kernel) ⟨Nat.le_of_ble_eq_true rfl, Nat.le_of_ble_eq_true rfl⟩) ⟨fun a U g mk q => by obtain ⟨q0, q1, qP, qK, qD⟩ := q; exact ⟨q0, q1, qP, va_K.moved (u := U) (U := U.calling g mk a) (Vm.Alike.refl U.vm) qK, qD⟩, va_recv hK hP (ci := 3) (q0 := 0) rfl rfl, fun U hU hW => ⟨rfl, by rw [hU], by rw [hU]; exact hPc, va_K.moved hW.alike hK, hDc.weaken (fun _ _ _ _ => trivial)⟩⟩ rfl rfl hl.1 rfl (lv_room (Nat.le_of_ble_eq_true rfl)) dX1_eventOf_2 ⟨Nat.zero_le _, Nat.zero_le _⟩) hS (fun q _ h => hFc q h) hFc (fun r_1 u_1 t_1 H1 locs ht hvm hw hB hz1 hk1 hS => ?_)
  have hw := hw.symm; subst hw
  obtain ⟨hP1, hK1, hD1⟩ := hB
  rw [ht] at hP1
  obtain ⟨hP, hD⟩ := va_join (wr := [(aD_events, .inl (cyI, 60, .inl zD_events))]) (w1 := [(aD, .inr (3, [.int zD, .ref aD_seconds, .ref aD_events])), (aD_seconds, .inl (cyI, 60, .inl zD_seconds))]) hP hD [0, 1] [2] rfl rfl (by decide) (by decide) hk1 hFc hP1 hD1
  generalize H1 = H at hP hS ⊢
  have hP := hP.sub (ws' := [(aD, .inr (3, [.int zD, .ref aD_seconds, .ref aD_events])), (aD_seconds, .inl (cyI, 60, .inl zD_seconds)), (aD_events, .inl (cyI, 60, .inl zD_events))]) [1, 2, 0] rfl
  have hD := hD.sub (ws' := [(aD, .inr (3, [.int zD, .ref aD_seconds, .ref aD_events])), (aD_seconds, .inl (cyI, 60, .inl zD_seconds)), (aD_events, .inl (cyI, 60, .inl zD_events))]) [1, 2, 0] (by decide) rfl
  clear hPc hDc hFc hP1 hK1 hD1
  refine lv_istore_n (lv' := [(2, .int v1), (0, .ref aD), (1, .int p1)]) hx hb dX1_eventOf_5 rfl hl (by decide) rfl (fun ls hl => ?_)
  refine lv_iload_n hx hb dX1_eventOf_6 rfl (lv_at hl 0 rfl) ?_
  refine lv_if_lt (tgt := 19) hx hb dX1_eventOf_7 (by decide) (fun c_2 => ?_) (fun c_2 => ?_)
  · have h := gk_mt c_2 h
    refine lv_iconst (v := 0) hx hb dX1_eventOf_19 (by decide) ?_
    exact W.iret hx hb hr (hret _ _ 0 (()) (Option.some.inj h) hP hD hS) hS.2.2 dX1_eventOf_20
  · have h := gk_mf c_2 h
    refine lv_aload_n hx hb dX1_eventOf_10 rfl (lv_at hl 1 rfl) ?_
    refine va_get (D := (dC, dI)) (ci := 3) (v := .ref aD_events) (C := RX1) (T := TX1) (N := 3) hx hb hts hinX1 hown hK hP 0 rfl rfl 2 (by decide) hf_15 (fun _ h9 => h9) rfl dX1_eventOf_11 ?_
    refine lv_iload_n hx hb dX1_eventOf_14 rfl (lv_at hl 0 rfl) ?_
    obtain ⟨c_3, h⟩ := gk_ck_s h
    refine va_iald hx hb hK hP 2 0 rfl rfl c_3 dX1_eventOf_15 ?_
    refine lv_goto (tgt := 20) hx hb dX1_eventOf_16 (by decide) ?_
    exact W.iret hx hb hr (hret _ _ (zD_events v1.toNatClampNeg) (()) (Option.some.inj h) hP hD hS) hS.2.2 dX1_eventOf_20
/-! X3_isDigit -/
noncomputable def m_X3_isDigit (F : Nat) (p0 : Int32)  : Option (Int32) := (if p0 < 48 then (some 0) else (if 57 < p0 then (some 0) else (some 1)))
abbrev rm_X3_isDigit : Room := { frames := 0, cells := 0, slots := 0, locals := 0 }
set_option maxHeartbeats 40000000 in
set_option maxRecDepth 100000 in
theorem c_X3_isDigit (l : Launch) (dC : Nat → ClassId) (dI : Nat → Nat → Nat) (cyI cyJ cyZ : ClassId) (F : Nat)  (sz : Nat) (p0 : Int32)  (r0 : Int32) (h : m_X3_isDigit F p0 = some r0) : Met l yX3_isDigit wsX3_isDigit rm_X3_isDigit (va_Pc [.int p0] (fun U => U.heap.size = sz ∧ va_P (dC, dI) vwCl [] U.heap ∧ va_K (dC, dI) vwCl [(cyI, .int), (cyJ, .long), (cyZ, .boolean)] U ∧ va_D (fun _ => True) [])) (va_Qi (fun (r : Int32) (u : Unit) => r = r0) (fun u t => va_P (dC, dI) vwCl [] t.heap ∧ va_K (dC, dI) vwCl [(cyI, .int), (cyJ, .long), (cyZ, .boolean)] t ∧ va_D (va_A [] sz) []) (va_A [] sz)) 0 0 (va_A [] sz) := by
  refine Met.ofW (cc := cX3_isDigit) (maxL := 1) (ret := (some .boolean)) (by decide) rfl ?_
  intro p e s m args below meth c s₁ B hml hv
  obtain ⟨hargs, hsz, hP, hK, hD0⟩ := hv
  have hx := B.exec
  have hb := B.bytes
  have hr := B.returns
  have hts := atoms_spec (ws := wsX3_isDigit) B.pre
  have hown : s.vm.findClass RX3 = some m.cls := findClass_of_methodNamed B.named
  have hlocks := B.notSynchronized
  subst hsz
  have hD := hD0.self (sz := s.heap.size)
  generalize hAe : va_A [] s.heap.size = A at hD ⊢
  have hA : ∀ q : Nat, s.heap.size ≤ q → A q := fun q h => by rw [← hAe]; exact Or.inr h
  have hS : va_S A s.heap s.heap [] := va_S.rf
  have hret : ∀ (H : Heap) (locs : List Loc) (r : Int32) (u : Unit), r = r0 → va_P (dC, dI) vwCl [] H → va_D A [] → va_S A s.heap H locs → ∀ t : State, t.heap = H → s.WarmedH t.vm → (va_Qi (fun (r : Int32) (u : Unit) => r = r0) (fun u t => va_P (dC, dI) vwCl [] t.heap ∧ va_K (dC, dI) vwCl [(cyI, .int), (cyJ, .long), (cyZ, .boolean)] t ∧ va_D A []) A) args s (.returned (some (.int r))) t := fun H locs r u hu hP hD hS t ht hW => ⟨⟨r, u, rfl, hu, by rw [ht]; exact hP, va_K.moved hW.alike hK, hD⟩, hS.F ht⟩
  generalize hQc : va_Qi (fun (r : Int32) (u : Unit) => r = r0) (fun u t => va_P (dC, dI) vwCl [] t.heap ∧ va_K (dC, dI) vwCl [(cyI, .int), (cyJ, .long), (cyZ, .boolean)] t ∧ va_D A []) A = Qc at hret ⊢
  have hl := lv_entry ([.int p0]) (n := 1) (Nat.le_of_ble_eq_true rfl)
  rw [hargs, lg_entry_eq, ← hargs]
  generalize (lg_sl ([.int p0]) ++ List.replicate (1 - (lg_sl ([.int p0])).length) Slot.unset).toArray = ls at hl ⊢
  have hl : lv_has ls 1 [(0, .int p0)] := hl
  have h : (if p0 < 48 then (some 0) else (if 57 < p0 then (some 0) else (some 1))) = some r0 := h
  have hH : True := trivial
  refine lv_iload_n hx hb dX3_isDigit_0 rfl (lv_at hl 0 rfl) ?_
  refine lv_bipush (v := 48) hx hb dX3_isDigit_1 (by decide) ?_
  refine lv_icmp_lt (tgt := 16) hx hb dX3_isDigit_3 (by decide) (fun c_1 => ?_) (fun c_1 => ?_)
  · have h := gk_mt c_1 h
    refine lv_iconst (v := 0) hx hb dX3_isDigit_16 (by decide) ?_
    exact W.zret hx hb hr rfl (hret _ _ 0 (()) (Option.some.inj h) hP hD hS) hS.2.2 dX3_isDigit_17
  · have h := gk_mf c_1 h
    refine lv_iload_n hx hb dX3_isDigit_6 rfl (lv_at hl 0 rfl) ?_
    refine lv_bipush (v := 57) hx hb dX3_isDigit_7 (by decide) ?_
    refine lv_icmp_gt (tgt := 16) hx hb dX3_isDigit_9 (by decide) (fun c_2 => ?_) (fun c_2 => ?_)
    · have h := gk_mt c_2 h
      refine lv_iconst (v := 0) hx hb dX3_isDigit_16 (by decide) ?_
      exact W.zret hx hb hr rfl (hret _ _ 0 (()) (Option.some.inj h) hP hD hS) hS.2.2 dX3_isDigit_17
    · have h := gk_mf c_2 h
      refine lv_iconst (v := 1) hx hb dX3_isDigit_12 (by decide) ?_
      refine lv_goto (tgt := 17) hx hb dX3_isDigit_13 (by decide) ?_
      exact W.zret hx hb hr rfl (hret _ _ 1 (()) (Option.some.inj h) hP hD hS) hS.2.2 dX3_isDigit_17
/-! X3_signAt -/
noncomputable def m_X3_signAt (F : Nat) (p1 : Int32) (zT : Int32 × Int32) (zT_signs : Nat → Int32) : Option (Int32) := (if p1 < 0 then (some 0) else (if zT.1 ≤ p1 then (some 0) else (gk_ck p1 60 ((some (zT_signs p1.toNatClampNeg))))))
abbrev rm_X3_signAt : Room := { frames := 0, cells := 0, slots := 0, locals := 0 }
set_option maxHeartbeats 40000000 in
set_option maxRecDepth 100000 in
theorem c_X3_signAt (l : Launch) (dC : Nat → ClassId) (dI : Nat → Nat → Nat) (cyI cyJ cyZ : ClassId) (F : Nat) (aT aT_signs aT_members aT_shortest aT_longestTimes : Nat) (sz : Nat) (p1 : Int32) (zT : Int32 × Int32) (zT_signs : Nat → Int32) (r0 : Int32) (h : m_X3_signAt F p1 zT zT_signs = some r0) : Met l yX3_signAt wsX3_signAt rm_X3_signAt (va_Pc [.ref aT, .int p1] (fun U => U.heap.size = sz ∧ va_P (dC, dI) vwCl [(aT, .inr (5, [.int zT.1, .ref aT_signs, .ref aT_members, .ref aT_shortest, .ref aT_longestTimes, .int zT.2])), (aT_signs, .inl (cyI, 60, .inl zT_signs))] U.heap ∧ va_K (dC, dI) vwCl [(cyI, .int), (cyJ, .long), (cyZ, .boolean)] U ∧ va_D (fun _ => True) [(aT, .inr (5, [.int zT.1, .ref aT_signs, .ref aT_members, .ref aT_shortest, .ref aT_longestTimes, .int zT.2])), (aT_signs, .inl (cyI, 60, .inl zT_signs))])) (va_Qi (fun (r : Int32) (u : Unit) => r = r0) (fun u t => va_P (dC, dI) vwCl [(aT, .inr (5, [.int zT.1, .ref aT_signs, .ref aT_members, .ref aT_shortest, .ref aT_longestTimes, .int zT.2])), (aT_signs, .inl (cyI, 60, .inl zT_signs))] t.heap ∧ va_K (dC, dI) vwCl [(cyI, .int), (cyJ, .long), (cyZ, .boolean)] t ∧ va_D (va_A [(aT, .inr (5, [.int zT.1, .ref aT_signs, .ref aT_members, .ref aT_shortest, .ref aT_longestTimes, .int zT.2])), (aT_signs, .inl (cyI, 60, .inl zT_signs))] sz) [(aT, .inr (5, [.int zT.1, .ref aT_signs, .ref aT_members, .ref aT_shortest, .ref aT_longestTimes, .int zT.2])), (aT_signs, .inl (cyI, 60, .inl zT_signs))]) (va_A [(aT, .inr (5, [.int zT.1, .ref aT_signs, .ref aT_members, .ref aT_shortest, .ref aT_longestTimes, .int zT.2])), (aT_signs, .inl (cyI, 60, .inl zT_signs))] sz)) 0 0 (va_A [(aT, .inr (5, [.int zT.1, .ref aT_signs, .ref aT_members, .ref aT_shortest, .ref aT_longestTimes, .int zT.2])), (aT_signs, .inl (cyI, 60, .inl zT_signs))] sz) := by
  refine Met.ofW (cc := cX3_signAt) (maxL := 2) (ret := (some .int)) (by decide) rfl ?_
  intro p e s m args below meth c s₁ B hml hv
  obtain ⟨hargs, hsz, hP, hK, hD0⟩ := hv
  have hx := B.exec
  have hb := B.bytes
  have hr := B.returns
  have hts := atoms_spec (ws := wsX3_signAt) B.pre
  have hown : s.vm.findClass RX3 = some m.cls := findClass_of_methodNamed B.named
  have hlocks := B.notSynchronized
  have hinX3 : ∀ w ∈ u_ws RX3 TX3 6, w ∈ wsX3_signAt := by decide +kernel
  have hf_24 := hts (.fieldLink RX3 24 "SignalProofs$PlanText" "length" "I") (by decide +kernel)
  have hf_9 := hts (.fieldLink RX3 9 "SignalProofs$PlanText" "signs" "[I") (by decide +kernel)
  subst hsz
  have hD := hD0.self (sz := s.heap.size)
  generalize hAe : va_A [(aT, .inr (5, [.int zT.1, .ref aT_signs, .ref aT_members, .ref aT_shortest, .ref aT_longestTimes, .int zT.2])), (aT_signs, .inl (cyI, 60, .inl zT_signs))] s.heap.size = A at hD ⊢
  have hA : ∀ q : Nat, s.heap.size ≤ q → A q := fun q h => by rw [← hAe]; exact Or.inr h
  have hS : va_S A s.heap s.heap [] := va_S.rf
  have hret : ∀ (H : Heap) (locs : List Loc) (r : Int32) (u : Unit), r = r0 → va_P (dC, dI) vwCl [(aT, .inr (5, [.int zT.1, .ref aT_signs, .ref aT_members, .ref aT_shortest, .ref aT_longestTimes, .int zT.2])), (aT_signs, .inl (cyI, 60, .inl zT_signs))] H → va_D A [(aT, .inr (5, [.int zT.1, .ref aT_signs, .ref aT_members, .ref aT_shortest, .ref aT_longestTimes, .int zT.2])), (aT_signs, .inl (cyI, 60, .inl zT_signs))] → va_S A s.heap H locs → ∀ t : State, t.heap = H → s.WarmedH t.vm → (va_Qi (fun (r : Int32) (u : Unit) => r = r0) (fun u t => va_P (dC, dI) vwCl [(aT, .inr (5, [.int zT.1, .ref aT_signs, .ref aT_members, .ref aT_shortest, .ref aT_longestTimes, .int zT.2])), (aT_signs, .inl (cyI, 60, .inl zT_signs))] t.heap ∧ va_K (dC, dI) vwCl [(cyI, .int), (cyJ, .long), (cyZ, .boolean)] t ∧ va_D A [(aT, .inr (5, [.int zT.1, .ref aT_signs, .ref aT_members, .ref aT_shortest, .ref aT_longestTimes, .int zT.2])), (aT_signs, .inl (cyI, 60, .inl zT_signs))]) A) args s (.returned (some (.int r))) t := fun H locs r u hu hP hD hS t ht hW => ⟨⟨r, u, rfl, hu, by rw [ht]; exact hP, va_K.moved hW.alike hK, hD⟩, hS.F ht⟩
  generalize hQc : va_Qi (fun (r : Int32) (u : Unit) => r = r0) (fun u t => va_P (dC, dI) vwCl [(aT, .inr (5, [.int zT.1, .ref aT_signs, .ref aT_members, .ref aT_shortest, .ref aT_longestTimes, .int zT.2])), (aT_signs, .inl (cyI, 60, .inl zT_signs))] t.heap ∧ va_K (dC, dI) vwCl [(cyI, .int), (cyJ, .long), (cyZ, .boolean)] t ∧ va_D A [(aT, .inr (5, [.int zT.1, .ref aT_signs, .ref aT_members, .ref aT_shortest, .ref aT_longestTimes, .int zT.2])), (aT_signs, .inl (cyI, 60, .inl zT_signs))]) A = Qc at hret ⊢
  have hl := lv_entry ([.ref aT, .int p1]) (n := 2) (Nat.le_of_ble_eq_true rfl)
  rw [hargs, lg_entry_eq, ← hargs]
  generalize (lg_sl ([.ref aT, .int p1]) ++ List.replicate (2 - (lg_sl ([.ref aT, .int p1])).length) Slot.unset).toArray = ls at hl ⊢
  have hl : lv_has ls 2 [(0, .ref aT), (1, .int p1)] := hl
  have h : (if p1 < 0 then (some 0) else (if zT.1 ≤ p1 then (some 0) else (gk_ck p1 60 ((some (zT_signs p1.toNatClampNeg)))))) = some r0 := h
  have hH : True := trivial
  refine lv_iload_n hx hb dX3_signAt_0 rfl (lv_at hl 1 rfl) ?_
  refine lv_if_lt (tgt := 21) hx hb dX3_signAt_1 (by decide) (fun c_1 => ?_) (fun c_1 => ?_)
  · have h := gk_mt c_1 h
    refine lv_iconst (v := 0) hx hb dX3_signAt_21 (by decide) ?_
    exact W.iret hx hb hr (hret _ _ 0 (()) (Option.some.inj h) hP hD hS) hS.2.2 dX3_signAt_22
  · have h := gk_mf c_1 h
    refine lv_iload_n hx hb dX3_signAt_4 rfl (lv_at hl 1 rfl) ?_
    refine lv_aload_n hx hb dX3_signAt_5 rfl (lv_at hl 0 rfl) ?_
    refine va_get (D := (dC, dI)) (ci := 5) (v := .int zT.1) (C := RX3) (T := TX3) (N := 6) hx hb hts hinX3 hown hK hP 0 rfl rfl 0 (by decide) hf_24 (fun _ h9 => h9) rfl dX3_signAt_6 ?_
    refine lv_icmp_ge (tgt := 21) hx hb dX3_signAt_9 (by decide) (fun c_2 => ?_) (fun c_2 => ?_)
    · have h := gk_mt c_2 h
      refine lv_iconst (v := 0) hx hb dX3_signAt_21 (by decide) ?_
      exact W.iret hx hb hr (hret _ _ 0 (()) (Option.some.inj h) hP hD hS) hS.2.2 dX3_signAt_22
    · have h := gk_mf c_2 h
      refine lv_aload_n hx hb dX3_signAt_12 rfl (lv_at hl 0 rfl) ?_
      refine va_get (D := (dC, dI)) (ci := 5) (v := .ref aT_signs) (C := RX3) (T := TX3) (N := 6) hx hb hts hinX3 hown hK hP 0 rfl rfl 1 (by decide) hf_9 (fun _ h9 => h9) rfl dX3_signAt_13 ?_
      refine lv_iload_n hx hb dX3_signAt_16 rfl (lv_at hl 1 rfl) ?_
      obtain ⟨c_3, h⟩ := gk_ck_s h
      refine va_iald hx hb hK hP 1 0 rfl rfl c_3 dX3_signAt_17 ?_
      refine lv_goto (tgt := 22) hx hb dX3_signAt_18 (by decide) ?_
      exact W.iret hx hb hr (hret _ _ (zT_signs p1.toNatClampNeg) (()) (Option.some.inj h) hP hD hS) hS.2.2 dX3_signAt_22
/-! X3_collect -/
noncomputable def m_X3_collect (F : Nat) (p1 : Int32) (zT : Int32 × Int32) (zT_signs : Nat → Int32) : Option (Int32 × ((Int32 × Int32) × (Nat → Int32))) := (if p1 < 32 then (some ((0, (zT, zT_signs)))) else (if 126 < p1 then (some ((0, (zT, zT_signs)))) else (if zT.1 < 60 then (gk_ck zT.1 60 ((some ((1, ((zT.1 + 1, zT.2), upd zT_signs zT.1.toNatClampNeg p1)))))) else (some ((0, (zT, zT_signs)))))))
abbrev rm_X3_collect : Room := { frames := 0, cells := 0, slots := 0, locals := 0 }
set_option maxHeartbeats 40000000 in
set_option maxRecDepth 100000 in
theorem c_X3_collect (l : Launch) (dC : Nat → ClassId) (dI : Nat → Nat → Nat) (cyI cyJ cyZ : ClassId) (F : Nat) (aT aT_signs aT_members aT_shortest aT_longestTimes : Nat) (sz : Nat) (p1 : Int32) (zT : Int32 × Int32) (zT_signs : Nat → Int32) (r0 : Int32 × ((Int32 × Int32) × (Nat → Int32))) (h : m_X3_collect F p1 zT zT_signs = some r0) : Met l yX3_collect wsX3_collect rm_X3_collect (va_Pc [.ref aT, .int p1] (fun U => U.heap.size = sz ∧ va_P (dC, dI) vwCl [(aT, .inr (5, [.int zT.1, .ref aT_signs, .ref aT_members, .ref aT_shortest, .ref aT_longestTimes, .int zT.2])), (aT_signs, .inl (cyI, 60, .inl zT_signs))] U.heap ∧ va_K (dC, dI) vwCl [(cyI, .int), (cyJ, .long), (cyZ, .boolean)] U ∧ va_D (fun _ => True) [(aT, .inr (5, [.int zT.1, .ref aT_signs, .ref aT_members, .ref aT_shortest, .ref aT_longestTimes, .int zT.2])), (aT_signs, .inl (cyI, 60, .inl zT_signs))])) (va_Qi (fun (r : Int32) (u : (Int32 × Int32) × (Nat → Int32)) => (r, u) = r0) (fun u t => va_P (dC, dI) vwCl [(aT, .inr (5, [.int u.1.1, .ref aT_signs, .ref aT_members, .ref aT_shortest, .ref aT_longestTimes, .int u.1.2])), (aT_signs, .inl (cyI, 60, .inl u.2))] t.heap ∧ va_K (dC, dI) vwCl [(cyI, .int), (cyJ, .long), (cyZ, .boolean)] t ∧ va_D (va_A [(aT, .inr (5, [.int zT.1, .ref aT_signs, .ref aT_members, .ref aT_shortest, .ref aT_longestTimes, .int zT.2])), (aT_signs, .inl (cyI, 60, .inl zT_signs))] sz) [(aT, .inr (5, [.int u.1.1, .ref aT_signs, .ref aT_members, .ref aT_shortest, .ref aT_longestTimes, .int u.1.2])), (aT_signs, .inl (cyI, 60, .inl u.2))]) (va_A [(aT, .inr (5, [.int zT.1, .ref aT_signs, .ref aT_members, .ref aT_shortest, .ref aT_longestTimes, .int zT.2])), (aT_signs, .inl (cyI, 60, .inl zT_signs))] sz)) 0 0 (va_A [(aT, .inr (5, [.int zT.1, .ref aT_signs, .ref aT_members, .ref aT_shortest, .ref aT_longestTimes, .int zT.2])), (aT_signs, .inl (cyI, 60, .inl zT_signs))] sz) := by
  refine Met.ofW (cc := cX3_collect) (maxL := 2) (ret := (some .boolean)) (by decide) rfl ?_
  intro p e s m args below meth c s₁ B hml hv
  obtain ⟨hargs, hsz, hP, hK, hD0⟩ := hv
  have hx := B.exec
  have hb := B.bytes
  have hr := B.returns
  have hts := atoms_spec (ws := wsX3_collect) B.pre
  have hown : s.vm.findClass RX3 = some m.cls := findClass_of_methodNamed B.named
  have hlocks := B.notSynchronized
  have hinX3 : ∀ w ∈ u_ws RX3 TX3 6, w ∈ wsX3_collect := by decide +kernel
  have hf_24 := hts (.fieldLink RX3 24 "SignalProofs$PlanText" "length" "I") (by decide +kernel)
  have hf_9 := hts (.fieldLink RX3 9 "SignalProofs$PlanText" "signs" "[I") (by decide +kernel)
  subst hsz
  have hD := hD0.self (sz := s.heap.size)
  generalize hAe : va_A [(aT, .inr (5, [.int zT.1, .ref aT_signs, .ref aT_members, .ref aT_shortest, .ref aT_longestTimes, .int zT.2])), (aT_signs, .inl (cyI, 60, .inl zT_signs))] s.heap.size = A at hD ⊢
  have hA : ∀ q : Nat, s.heap.size ≤ q → A q := fun q h => by rw [← hAe]; exact Or.inr h
  have hS : va_S A s.heap s.heap [] := va_S.rf
  have hret : ∀ (H : Heap) (locs : List Loc) (r : Int32) (u : (Int32 × Int32) × (Nat → Int32)), (r, u) = r0 → va_P (dC, dI) vwCl [(aT, .inr (5, [.int u.1.1, .ref aT_signs, .ref aT_members, .ref aT_shortest, .ref aT_longestTimes, .int u.1.2])), (aT_signs, .inl (cyI, 60, .inl u.2))] H → va_D A [(aT, .inr (5, [.int u.1.1, .ref aT_signs, .ref aT_members, .ref aT_shortest, .ref aT_longestTimes, .int u.1.2])), (aT_signs, .inl (cyI, 60, .inl u.2))] → va_S A s.heap H locs → ∀ t : State, t.heap = H → s.WarmedH t.vm → (va_Qi (fun (r : Int32) (u : (Int32 × Int32) × (Nat → Int32)) => (r, u) = r0) (fun u t => va_P (dC, dI) vwCl [(aT, .inr (5, [.int u.1.1, .ref aT_signs, .ref aT_members, .ref aT_shortest, .ref aT_longestTimes, .int u.1.2])), (aT_signs, .inl (cyI, 60, .inl u.2))] t.heap ∧ va_K (dC, dI) vwCl [(cyI, .int), (cyJ, .long), (cyZ, .boolean)] t ∧ va_D A [(aT, .inr (5, [.int u.1.1, .ref aT_signs, .ref aT_members, .ref aT_shortest, .ref aT_longestTimes, .int u.1.2])), (aT_signs, .inl (cyI, 60, .inl u.2))]) A) args s (.returned (some (.int r))) t := fun H locs r u hu hP hD hS t ht hW => ⟨⟨r, u, rfl, hu, by rw [ht]; exact hP, va_K.moved hW.alike hK, hD⟩, hS.F ht⟩
  generalize hQc : va_Qi (fun (r : Int32) (u : (Int32 × Int32) × (Nat → Int32)) => (r, u) = r0) (fun u t => va_P (dC, dI) vwCl [(aT, .inr (5, [.int u.1.1, .ref aT_signs, .ref aT_members, .ref aT_shortest, .ref aT_longestTimes, .int u.1.2])), (aT_signs, .inl (cyI, 60, .inl u.2))] t.heap ∧ va_K (dC, dI) vwCl [(cyI, .int), (cyJ, .long), (cyZ, .boolean)] t ∧ va_D A [(aT, .inr (5, [.int u.1.1, .ref aT_signs, .ref aT_members, .ref aT_shortest, .ref aT_longestTimes, .int u.1.2])), (aT_signs, .inl (cyI, 60, .inl u.2))]) A = Qc at hret ⊢
  have hl := lv_entry ([.ref aT, .int p1]) (n := 2) (Nat.le_of_ble_eq_true rfl)
  rw [hargs, lg_entry_eq, ← hargs]
  generalize (lg_sl ([.ref aT, .int p1]) ++ List.replicate (2 - (lg_sl ([.ref aT, .int p1])).length) Slot.unset).toArray = ls at hl ⊢
  have hl : lv_has ls 2 [(0, .ref aT), (1, .int p1)] := hl
  have h : (if p1 < 32 then (some ((0, (zT, zT_signs)))) else (if 126 < p1 then (some ((0, (zT, zT_signs)))) else (if zT.1 < 60 then (gk_ck zT.1 60 ((some ((1, ((zT.1 + 1, zT.2), upd zT_signs zT.1.toNatClampNeg p1)))))) else (some ((0, (zT, zT_signs))))))) = some r0 := h
  have hH : True := trivial
  refine lv_iload_n hx hb dX3_collect_0 rfl (lv_at hl 1 rfl) ?_
  refine lv_bipush (v := 32) hx hb dX3_collect_1 (by decide) ?_
  refine lv_icmp_lt (tgt := 21) hx hb dX3_collect_3 (by decide) (fun c_1 => ?_) (fun c_1 => ?_)
  · have h := gk_mt c_1 h
    refine lv_iconst (v := 0) hx hb dX3_collect_21 (by decide) ?_
    exact W.zret hx hb hr rfl (hret _ _ 0 ((zT, zT_signs)) (Option.some.inj h) hP hD hS) hS.2.2 dX3_collect_22
  · have h := gk_mf c_1 h
    refine lv_iload_n hx hb dX3_collect_6 rfl (lv_at hl 1 rfl) ?_
    refine lv_bipush (v := 126) hx hb dX3_collect_7 (by decide) ?_
    refine lv_icmp_gt (tgt := 21) hx hb dX3_collect_9 (by decide) (fun c_2 => ?_) (fun c_2 => ?_)
    · have h := gk_mt c_2 h
      refine lv_iconst (v := 0) hx hb dX3_collect_21 (by decide) ?_
      exact W.zret hx hb hr rfl (hret _ _ 0 ((zT, zT_signs)) (Option.some.inj h) hP hD hS) hS.2.2 dX3_collect_22
    · have h := gk_mf c_2 h
      refine lv_aload_n hx hb dX3_collect_12 rfl (lv_at hl 0 rfl) ?_
      refine va_get (D := (dC, dI)) (ci := 5) (v := .int zT.1) (C := RX3) (T := TX3) (N := 6) hx hb hts hinX3 hown hK hP 0 rfl rfl 0 (by decide) hf_24 (fun _ h9 => h9) rfl dX3_collect_13 ?_
      refine lv_bipush (v := 60) hx hb dX3_collect_16 (by decide) ?_
      refine lv_icmp_lt (tgt := 23) hx hb dX3_collect_18 (by decide) (fun c_3 => ?_) (fun c_3 => ?_)
      · have h := gk_mt c_3 h
        refine lv_aload_n hx hb dX3_collect_23 rfl (lv_at hl 0 rfl) ?_
        refine va_get (D := (dC, dI)) (ci := 5) (v := .ref aT_signs) (C := RX3) (T := TX3) (N := 6) hx hb hts hinX3 hown hK hP 0 rfl rfl 1 (by decide) hf_9 (fun _ h9 => h9) rfl dX3_collect_24 ?_
        refine lv_aload_n hx hb dX3_collect_27 rfl (lv_at hl 0 rfl) ?_
        refine va_get (D := (dC, dI)) (ci := 5) (v := .int zT.1) (C := RX3) (T := TX3) (N := 6) hx hb hts hinX3 hown hK hP 0 rfl rfl 0 (by decide) hf_24 (fun _ h9 => h9) rfl dX3_collect_28 ?_
        refine lv_iload_n hx hb dX3_collect_31 rfl (lv_at hl 1 rfl) ?_
        obtain ⟨c_4, h⟩ := gk_ck_s h
        refine va_iast hx hb hK hP hD hS 1 0 rfl rfl c_4 dX3_collect_32 (fun H locs hP hD hS => ?_)
        have hP : va_P (dC, dI) vwCl [(aT, .inr (5, [.int zT.1, .ref aT_signs, .ref aT_members, .ref aT_shortest, .ref aT_longestTimes, .int zT.2])), (aT_signs, .inl (cyI, 60, .inl (upd zT_signs zT.1.toNatClampNeg p1)))] H := hP
        have hD : va_D A [(aT, .inr (5, [.int zT.1, .ref aT_signs, .ref aT_members, .ref aT_shortest, .ref aT_longestTimes, .int zT.2])), (aT_signs, .inl (cyI, 60, .inl (upd zT_signs zT.1.toNatClampNeg p1)))] := hD
        refine lv_aload_n hx hb dX3_collect_33 rfl (lv_at hl 0 rfl) ?_
        refine lv_dup hx hb dX3_collect_34 rfl ?_
        refine va_get (D := (dC, dI)) (ci := 5) (v := .int zT.1) (C := RX3) (T := TX3) (N := 6) hx hb hts hinX3 hown hK hP 0 rfl rfl 0 (by decide) hf_24 (fun _ h9 => h9) rfl dX3_collect_35 ?_
        refine lv_iconst (v := 1) hx hb dX3_collect_38 (by decide) ?_
        refine lv_iadd hx hb dX3_collect_39 ?_
        refine va_put (D := (dC, dI)) (ci := 5) (v := .int (zT.1 + 1)) (ty := .int) (C := RX3) (T := TX3) (N := 6) hx hb hts hinX3 tyX3 tyX3_ok nmX3 hown hK hP hD hS 0 rfl rfl 0 (by decide) hf_24 (fun _ h9 => h9) rfl (by decide +kernel) rfl rfl (Nat.le_of_ble_eq_true rfl) dX3_collect_40 (fun H locs hP hD hS => ?_)
        have hP : va_P (dC, dI) vwCl [(aT, .inr (5, [.int (zT.1 + 1), .ref aT_signs, .ref aT_members, .ref aT_shortest, .ref aT_longestTimes, .int zT.2])), (aT_signs, .inl (cyI, 60, .inl (upd zT_signs zT.1.toNatClampNeg p1)))] H := hP
        have hD : va_D A [(aT, .inr (5, [.int (zT.1 + 1), .ref aT_signs, .ref aT_members, .ref aT_shortest, .ref aT_longestTimes, .int zT.2])), (aT_signs, .inl (cyI, 60, .inl (upd zT_signs zT.1.toNatClampNeg p1)))] := hD
        refine lv_iconst (v := 1) hx hb dX3_collect_43 (by decide) ?_
        exact W.zret hx hb hr rfl (hret _ _ 1 (((zT.1 + 1, zT.2), upd zT_signs zT.1.toNatClampNeg p1)) (Option.some.inj h) hP hD hS) hS.2.2 dX3_collect_44
      · have h := gk_mf c_3 h
        refine lv_iconst (v := 0) hx hb dX3_collect_21 (by decide) ?_
        exact W.zret hx hb hr rfl (hret _ _ 0 ((zT, zT_signs)) (Option.some.inj h) hP hD hS) hS.2.2 dX3_collect_22
/-! X3_parseNumber -/
noncomputable def m_X3_parseNumber_J93 (F : Nat) (zT_signs : Nat → Int32)  (x1 : Int32) (zT : Int32 × Int32) : Option (Int32 × ((Int32 × Int32))) := (some ((((-1)) - x1, zT)))
noncomputable def m_X3_parseNumber_J77 (F : Nat) (zT_signs : Nat → Int32)  (x1 : Int32) (x2 : Int32) (x3 : Int32) (x4 : Int32) (zT : Int32 × Int32) : Option (Int32 × ((Int32 × Int32))) := (if zT.2 < x2 then m_X3_parseNumber_J93 F zT_signs x1 zT else (if zT.2 ≤ x3 then (some ((x4, zT))) else m_X3_parseNumber_J93 F zT_signs x1 zT))
noncomputable def m_X3_parseNumber_L22 (F : Nat) (zT_signs : Nat → Int32)  (n : Nat) : (Int32) → (Int32) → (Int32) → (Int32) → (Int32 × Int32) → Option (Int32 × ((Int32 × Int32))) := Nat.rec (motive := fun _ => (Int32) → (Int32) → (Int32) → (Int32) → (Int32 × Int32) → Option (Int32 × ((Int32 × Int32)))) (fun _ _ _ _ _ => none) (fun _ ih => fun x1 x2 x3 x4 zT => (if zT.1 ≤ x4 then m_X3_parseNumber_J77 F zT_signs x1 x2 x3 x4 zT else (gk_ck x4 60 ((gk_bd (m_X3_isDigit F (zT_signs x4.toNatClampNeg)) (fun v5 => (if v5 = 0 then m_X3_parseNumber_J77 F zT_signs x1 x2 x3 x4 zT else (gk_ck x4 60 (ih x1 x2 x3 (x4 + 1) ((zT.1, if 32 < (((zT.2 * 10) + (zT_signs x4.toNatClampNeg)) - 48) then 32 else (((zT.2 * 10) + (zT_signs x4.toNatClampNeg)) - 48)))))))))))) n
noncomputable def m_X3_parseNumber (F : Nat) (p1 : Int32) (p2 : Int32) (p3 : Int32) (zT : Int32 × Int32) (zT_signs : Nat → Int32) : Option (Int32 × ((Int32 × Int32))) := (gk_bd (m_X3_signAt F p1 ((zT.1, 0)) zT_signs) (fun v8 => (if v8 = 48 then (some ((((-1)) - p1, (zT.1, 0)))) else m_X3_parseNumber_L22 F zT_signs F p1 p2 p3 p1 ((zT.1, 0)))))
abbrev rm_X3_parseNumber : Room := { frames := 1, cells := 0, slots := 0, locals := 21 }
set_option maxHeartbeats 40000000 in
set_option maxRecDepth 100000 in
theorem c_X3_parseNumber (l : Launch) (dC : Nat → ClassId) (dI : Nat → Nat → Nat) (cyI cyJ cyZ : ClassId) (F : Nat) (aT aT_signs aT_members aT_shortest aT_longestTimes : Nat) (sz : Nat) (p1 : Int32) (p2 : Int32) (p3 : Int32) (zT : Int32 × Int32) (zT_signs : Nat → Int32) (r0 : Int32 × ((Int32 × Int32))) (h : m_X3_parseNumber F p1 p2 p3 zT zT_signs = some r0) : Met l yX3_parseNumber wsX3_parseNumber rm_X3_parseNumber (va_Pc [.ref aT, .int p1, .int p2, .int p3] (fun U => U.heap.size = sz ∧ va_P (dC, dI) vwCl [(aT, .inr (5, [.int zT.1, .ref aT_signs, .ref aT_members, .ref aT_shortest, .ref aT_longestTimes, .int zT.2])), (aT_signs, .inl (cyI, 60, .inl zT_signs))] U.heap ∧ va_K (dC, dI) vwCl [(cyI, .int), (cyJ, .long), (cyZ, .boolean)] U ∧ va_D (fun _ => True) [(aT, .inr (5, [.int zT.1, .ref aT_signs, .ref aT_members, .ref aT_shortest, .ref aT_longestTimes, .int zT.2])), (aT_signs, .inl (cyI, 60, .inl zT_signs))])) (va_Qi (fun (r : Int32) (u : (Int32 × Int32)) => (r, u) = r0) (fun u t => va_P (dC, dI) vwCl [(aT, .inr (5, [.int u.1, .ref aT_signs, .ref aT_members, .ref aT_shortest, .ref aT_longestTimes, .int u.2])), (aT_signs, .inl (cyI, 60, .inl zT_signs))] t.heap ∧ va_K (dC, dI) vwCl [(cyI, .int), (cyJ, .long), (cyZ, .boolean)] t ∧ va_D (va_A [(aT, .inr (5, [.int zT.1, .ref aT_signs, .ref aT_members, .ref aT_shortest, .ref aT_longestTimes, .int zT.2])), (aT_signs, .inl (cyI, 60, .inl zT_signs))] sz) [(aT, .inr (5, [.int u.1, .ref aT_signs, .ref aT_members, .ref aT_shortest, .ref aT_longestTimes, .int u.2])), (aT_signs, .inl (cyI, 60, .inl zT_signs))]) (va_A [(aT, .inr (5, [.int zT.1, .ref aT_signs, .ref aT_members, .ref aT_shortest, .ref aT_longestTimes, .int zT.2])), (aT_signs, .inl (cyI, 60, .inl zT_signs))] sz)) 0 0 (va_A [(aT, .inr (5, [.int zT.1, .ref aT_signs, .ref aT_members, .ref aT_shortest, .ref aT_longestTimes, .int zT.2])), (aT_signs, .inl (cyI, 60, .inl zT_signs))] sz) := by
  refine Met.ofW (cc := cX3_parseNumber) (maxL := 5) (ret := (some .int)) (by decide) rfl ?_
  intro p e s m args below meth c s₁ B hml hv
  obtain ⟨hargs, hsz, hP, hK, hD0⟩ := hv
  have hx := B.exec
  have hb := B.bytes
  have hr := B.returns
  have hts := atoms_spec (ws := wsX3_parseNumber) B.pre
  have hown : s.vm.findClass RX3 = some m.cls := findClass_of_methodNamed B.named
  have hlocks := B.notSynchronized
  have hinX3 : ∀ w ∈ u_ws RX3 TX3 6, w ∈ wsX3_parseNumber := by decide +kernel
  have hf_38 := hts (.fieldLink RX3 38 "SignalProofs$PlanText" "value" "I") (by decide +kernel)
  have hf_24 := hts (.fieldLink RX3 24 "SignalProofs$PlanText" "length" "I") (by decide +kernel)
  have hf_9 := hts (.fieldLink RX3 9 "SignalProofs$PlanText" "signs" "[I") (by decide +kernel)
  have hm_49 := hts (.methodLink RX3 49 Lib.Math.min.name) (by decide +kernel)
  have hms_min := hts (.static Lib.Math.min.name) (by decide +kernel)
  have hmc_min := hts (.code Lib.Math.min.name Lib.Math.min.code 2 (some .int)) (by decide +kernel)
  have hmi := hts (.initialized "java/lang/Math") (by decide +kernel)
  subst hsz
  have hD := hD0.self (sz := s.heap.size)
  generalize hAe : va_A [(aT, .inr (5, [.int zT.1, .ref aT_signs, .ref aT_members, .ref aT_shortest, .ref aT_longestTimes, .int zT.2])), (aT_signs, .inl (cyI, 60, .inl zT_signs))] s.heap.size = A at hD ⊢
  have hA : ∀ q : Nat, s.heap.size ≤ q → A q := fun q h => by rw [← hAe]; exact Or.inr h
  have hS : va_S A s.heap s.heap [] := va_S.rf
  have hret : ∀ (H : Heap) (locs : List Loc) (r : Int32) (u : (Int32 × Int32)), (r, u) = r0 → va_P (dC, dI) vwCl [(aT, .inr (5, [.int u.1, .ref aT_signs, .ref aT_members, .ref aT_shortest, .ref aT_longestTimes, .int u.2])), (aT_signs, .inl (cyI, 60, .inl zT_signs))] H → va_D A [(aT, .inr (5, [.int u.1, .ref aT_signs, .ref aT_members, .ref aT_shortest, .ref aT_longestTimes, .int u.2])), (aT_signs, .inl (cyI, 60, .inl zT_signs))] → va_S A s.heap H locs → ∀ t : State, t.heap = H → s.WarmedH t.vm → (va_Qi (fun (r : Int32) (u : (Int32 × Int32)) => (r, u) = r0) (fun u t => va_P (dC, dI) vwCl [(aT, .inr (5, [.int u.1, .ref aT_signs, .ref aT_members, .ref aT_shortest, .ref aT_longestTimes, .int u.2])), (aT_signs, .inl (cyI, 60, .inl zT_signs))] t.heap ∧ va_K (dC, dI) vwCl [(cyI, .int), (cyJ, .long), (cyZ, .boolean)] t ∧ va_D A [(aT, .inr (5, [.int u.1, .ref aT_signs, .ref aT_members, .ref aT_shortest, .ref aT_longestTimes, .int u.2])), (aT_signs, .inl (cyI, 60, .inl zT_signs))]) A) args s (.returned (some (.int r))) t := fun H locs r u hu hP hD hS t ht hW => ⟨⟨r, u, rfl, hu, by rw [ht]; exact hP, va_K.moved hW.alike hK, hD⟩, hS.F ht⟩
  generalize hQc : va_Qi (fun (r : Int32) (u : (Int32 × Int32)) => (r, u) = r0) (fun u t => va_P (dC, dI) vwCl [(aT, .inr (5, [.int u.1, .ref aT_signs, .ref aT_members, .ref aT_shortest, .ref aT_longestTimes, .int u.2])), (aT_signs, .inl (cyI, 60, .inl zT_signs))] t.heap ∧ va_K (dC, dI) vwCl [(cyI, .int), (cyJ, .long), (cyZ, .boolean)] t ∧ va_D A [(aT, .inr (5, [.int u.1, .ref aT_signs, .ref aT_members, .ref aT_shortest, .ref aT_longestTimes, .int u.2])), (aT_signs, .inl (cyI, 60, .inl zT_signs))]) A = Qc at hret ⊢
  have hl := lv_entry ([.ref aT, .int p1, .int p2, .int p3]) (n := 5) (Nat.le_of_ble_eq_true rfl)
  rw [hargs, lg_entry_eq, ← hargs]
  generalize (lg_sl ([.ref aT, .int p1, .int p2, .int p3]) ++ List.replicate (5 - (lg_sl ([.ref aT, .int p1, .int p2, .int p3])).length) Slot.unset).toArray = ls at hl ⊢
  have hl : lv_has ls 5 [(0, .ref aT), (1, .int p1), (2, .int p2), (3, .int p3)] := hl
  have w_J93 : ∀ (x1 : Int32) (zT : Int32 × Int32), m_X3_parseNumber_J93 F zT_signs x1 zT = some r0 → ∀ (H : Heap) (locs : List Loc) (ls : Array Slot), va_P (dC, dI) vwCl [(aT, .inr (5, [.int zT.1, .ref aT_signs, .ref aT_members, .ref aT_shortest, .ref aT_longestTimes, .int zT.2])), (aT_signs, .inl (cyI, 60, .inl zT_signs))] H → va_D A [(aT, .inr (5, [.int zT.1, .ref aT_signs, .ref aT_members, .ref aT_shortest, .ref aT_longestTimes, .int zT.2])), (aT_signs, .inl (cyI, 60, .inl zT_signs))] → va_S A s.heap H locs → lv_has ls 5 [(1, .int x1)] → W p l e (headSpec wsX3_parseNumber rm_X3_parseNumber).room s m args below meth c H locs 0 0 (MQ below Qc args s 0 0 A) (F0 m 93 ls []) := by
    intro x1 zT h H locs ls hP hD hS hl
    have h : (some ((((-1)) - x1, zT))) = some r0 := h
    refine lv_iconst (v := (-1)) hx hb dX3_parseNumber_93 (by decide) ?_
    refine lv_iload_n hx hb dX3_parseNumber_94 rfl (lv_at hl 0 rfl) ?_
    refine lv_isub hx hb dX3_parseNumber_95 ?_
    refine lv_goto (tgt := 101) hx hb dX3_parseNumber_96 (by decide) ?_
    exact W.iret hx hb hr (hret _ _ (((-1)) - x1) zT (Option.some.inj h) hP hD hS) hS.2.2 dX3_parseNumber_101
  have w_J77 : ∀ (x1 : Int32) (x2 : Int32) (x3 : Int32) (x4 : Int32) (zT : Int32 × Int32), m_X3_parseNumber_J77 F zT_signs x1 x2 x3 x4 zT = some r0 → ∀ (H : Heap) (locs : List Loc) (ls : Array Slot), va_P (dC, dI) vwCl [(aT, .inr (5, [.int zT.1, .ref aT_signs, .ref aT_members, .ref aT_shortest, .ref aT_longestTimes, .int zT.2])), (aT_signs, .inl (cyI, 60, .inl zT_signs))] H → va_D A [(aT, .inr (5, [.int zT.1, .ref aT_signs, .ref aT_members, .ref aT_shortest, .ref aT_longestTimes, .int zT.2])), (aT_signs, .inl (cyI, 60, .inl zT_signs))] → va_S A s.heap H locs → lv_has ls 5 [(0, .ref aT), (1, .int x1), (2, .int x2), (3, .int x3), (4, .int x4)] → W p l e (headSpec wsX3_parseNumber rm_X3_parseNumber).room s m args below meth c H locs 0 0 (MQ below Qc args s 0 0 A) (F0 m 77 ls []) := by
    intro x1 x2 x3 x4 zT h H locs ls hP hD hS hl
    have h : (if zT.2 < x2 then m_X3_parseNumber_J93 F zT_signs x1 zT else (if zT.2 ≤ x3 then (some ((x4, zT))) else m_X3_parseNumber_J93 F zT_signs x1 zT)) = some r0 := h
    refine lv_aload_n hx hb dX3_parseNumber_77 rfl (lv_at hl 0 rfl) ?_
    refine va_get (D := (dC, dI)) (ci := 5) (v := .int zT.2) (C := RX3) (T := TX3) (N := 6) hx hb hts hinX3 hown hK hP 0 rfl rfl 5 (by decide) hf_38 (fun _ h9 => h9) rfl dX3_parseNumber_78 ?_
    refine lv_iload_n hx hb dX3_parseNumber_81 rfl (lv_at hl 2 rfl) ?_
    refine lv_icmp_lt (tgt := 93) hx hb dX3_parseNumber_82 (by decide) (fun c_1 => ?_) (fun c_1 => ?_)
    · have h := gk_mt c_1 h
      exact w_J93 x1 zT h _ _ _ hP hD hS (lv_sub hl [1] rfl)
    · have h := gk_mf c_1 h
      refine lv_aload_n hx hb dX3_parseNumber_85 rfl (lv_at hl 0 rfl) ?_
      refine va_get (D := (dC, dI)) (ci := 5) (v := .int zT.2) (C := RX3) (T := TX3) (N := 6) hx hb hts hinX3 hown hK hP 0 rfl rfl 5 (by decide) hf_38 (fun _ h9 => h9) rfl dX3_parseNumber_86 ?_
      refine lv_iload_n hx hb dX3_parseNumber_89 rfl (lv_at hl 3 rfl) ?_
      refine lv_icmp_le (tgt := 99) hx hb dX3_parseNumber_90 (by decide) (fun c_2 => ?_) (fun c_2 => ?_)
      · have h := gk_mt c_2 h
        refine lv_iload hx hb dX3_parseNumber_99 (lv_at hl 4 rfl) ?_
        exact W.iret hx hb hr (hret _ _ x4 zT (Option.some.inj h) hP hD hS) hS.2.2 dX3_parseNumber_101
      · have h := gk_mf c_2 h
        exact w_J93 x1 zT h _ _ _ hP hD hS (lv_sub hl [1] rfl)
  have w_L22 : ∀  (n : Nat), ∀ (x1 : Int32) (x2 : Int32) (x3 : Int32) (x4 : Int32) (zT : Int32 × Int32), (m_X3_parseNumber_L22 F zT_signs n) x1 x2 x3 x4 zT = some r0 → ∀ (H : Heap) (locs : List Loc) (ls : Array Slot), va_P (dC, dI) vwCl [(aT, .inr (5, [.int zT.1, .ref aT_signs, .ref aT_members, .ref aT_shortest, .ref aT_longestTimes, .int zT.2])), (aT_signs, .inl (cyI, 60, .inl zT_signs))] H → va_D A [(aT, .inr (5, [.int zT.1, .ref aT_signs, .ref aT_members, .ref aT_shortest, .ref aT_longestTimes, .int zT.2])), (aT_signs, .inl (cyI, 60, .inl zT_signs))] → va_S A s.heap H locs → lv_has ls 5 [(0, .ref aT), (1, .int x1), (2, .int x2), (3, .int x3), (4, .int x4)] → W p l e (headSpec wsX3_parseNumber rm_X3_parseNumber).room s m args below meth c H locs 0 0 (MQ below Qc args s 0 0 A) (F0 m 22 ls []) := by
    intro n
    induction n with
    | zero =>
      intro x1 x2 x3 x4 zT h
      exact nomatch h
    | succ n ih =>
      intro x1 x2 x3 x4 zT h H locs ls hP hD hS hl
      have h : (if zT.1 ≤ x4 then m_X3_parseNumber_J77 F zT_signs x1 x2 x3 x4 zT else (gk_ck x4 60 ((gk_bd (m_X3_isDigit F (zT_signs x4.toNatClampNeg)) (fun v5 => (if v5 = 0 then m_X3_parseNumber_J77 F zT_signs x1 x2 x3 x4 zT else (gk_ck x4 60 ((m_X3_parseNumber_L22 F zT_signs n) x1 x2 x3 (x4 + 1) ((zT.1, if 32 < (((zT.2 * 10) + (zT_signs x4.toNatClampNeg)) - 48) then 32 else (((zT.2 * 10) + (zT_signs x4.toNatClampNeg)) - 48))))))))))) = some r0 := h
      refine lv_iload hx hb dX3_parseNumber_22 (lv_at hl 4 rfl) ?_
      refine lv_aload_n hx hb dX3_parseNumber_24 rfl (lv_at hl 0 rfl) ?_
      refine va_get (D := (dC, dI)) (ci := 5) (v := .int zT.1) (C := RX3) (T := TX3) (N := 6) hx hb hts hinX3 hown hK hP 0 rfl rfl 0 (by decide) hf_24 (fun _ h9 => h9) rfl dX3_parseNumber_25 ?_
      refine lv_icmp_ge (tgt := 77) hx hb dX3_parseNumber_28 (by decide) (fun c_3 => ?_) (fun c_3 => ?_)
      · have h := gk_mt c_3 h
        exact w_J77 x1 x2 x3 x4 zT h _ _ _ hP hD hS (lv_sub hl [0, 1, 2, 3, 4] rfl)
      · have h := gk_mf c_3 h
        refine lv_aload_n hx hb dX3_parseNumber_31 rfl (lv_at hl 0 rfl) ?_
        refine va_get (D := (dC, dI)) (ci := 5) (v := .ref aT_signs) (C := RX3) (T := TX3) (N := 6) hx hb hts hinX3 hown hK hP 0 rfl rfl 1 (by decide) hf_9 (fun _ h9 => h9) rfl dX3_parseNumber_32 ?_
        refine lv_iload hx hb dX3_parseNumber_35 (lv_at hl 4 rfl) ?_
        obtain ⟨c_4, h⟩ := gk_ck_s h
        refine va_iald hx hb hK hP 1 0 rfl rfl c_4 dX3_parseNumber_37 ?_
        obtain ⟨v5, hc_5, h⟩ := gk_bd_s h
        have hPc := hP.sub (ws' := []) [] rfl
        have hDc := hD.sub (ws' := []) [] (by decide) rfl
        have hFc := va_free (wc := []) hD hS hA [] rfl
        refine va_calli (va_runS (As := [.int (zT_signs x4.toNatClampNeg)]) (rest := []) ⟨hx, hb, hml, hown, hts⟩ (c_X3_isDigit l dC dI cyI cyJ cyZ F  H.size (zT_signs x4.toNatClampNeg) v5 hc_5) (va_cwS 1 hts gX3_parseNumber_X3_isDigit rfl rfl rfl (by decide +kernel) ⟨Nat.le_of_ble_eq_true rfl, Nat.le_of_ble_eq_true rfl⟩) ⟨fun a U g mk q => by obtain ⟨q0, q1, qP, qK, qD⟩ := q; exact ⟨q0, q1, qP, va_K.moved (u := U) (U := U.calling g mk a) (Vm.Alike.refl U.vm) qK, qD⟩, fun U hU hW => ⟨rfl, by rw [hU], by rw [hU]; exact hPc, va_K.moved hW.alike hK, hDc.weaken (fun _ _ _ _ => trivial)⟩⟩ rfl rfl hl.1 rfl (lv_room (Nat.le_of_ble_eq_true rfl)) dX3_parseNumber_38 ⟨Nat.zero_le _, Nat.zero_le _⟩) hS (fun q _ h => hFc q h) hFc (fun r_5 u_5 t_5 H1 locs ht hvm hw hB hz1 hk1 hS => ?_)
        have hw := hw.symm; subst hw
        obtain ⟨hP1, hK1, hD1⟩ := hB
        rw [ht] at hP1
        obtain ⟨hP, hD⟩ := va_join (wr := [(aT, .inr (5, [.int zT.1, .ref aT_signs, .ref aT_members, .ref aT_shortest, .ref aT_longestTimes, .int zT.2])), (aT_signs, .inl (cyI, 60, .inl zT_signs))]) (w1 := []) hP hD [] [0, 1] rfl rfl (by decide) (by decide) hk1 hFc hP1 hD1
        generalize H1 = H at hP hS ⊢
        have hP := hP.sub (ws' := [(aT, .inr (5, [.int zT.1, .ref aT_signs, .ref aT_members, .ref aT_shortest, .ref aT_longestTimes, .int zT.2])), (aT_signs, .inl (cyI, 60, .inl zT_signs))]) [0, 1] rfl
        have hD := hD.sub (ws' := [(aT, .inr (5, [.int zT.1, .ref aT_signs, .ref aT_members, .ref aT_shortest, .ref aT_longestTimes, .int zT.2])), (aT_signs, .inl (cyI, 60, .inl zT_signs))]) [0, 1] (by decide) rfl
        clear hPc hDc hFc hP1 hK1 hD1
        refine lv_if_eq (tgt := 77) hx hb dX3_parseNumber_41 (by decide) (fun c_6 => ?_) (fun c_6 => ?_)
        · have h := gk_mt c_6 h
          exact w_J77 x1 x2 x3 x4 zT h _ _ _ hP hD hS (lv_sub hl [0, 1, 2, 3, 4] rfl)
        · have h := gk_mf c_6 h
          refine lv_aload_n hx hb dX3_parseNumber_44 rfl (lv_at hl 0 rfl) ?_
          refine lv_aload_n hx hb dX3_parseNumber_45 rfl (lv_at hl 0 rfl) ?_
          refine va_get (D := (dC, dI)) (ci := 5) (v := .int zT.2) (C := RX3) (T := TX3) (N := 6) hx hb hts hinX3 hown hK hP 0 rfl rfl 5 (by decide) hf_38 (fun _ h9 => h9) rfl dX3_parseNumber_46 ?_
          refine lv_bipush (v := 10) hx hb dX3_parseNumber_49 (by decide) ?_
          refine lv_imul hx hb dX3_parseNumber_51 ?_
          refine lv_aload_n hx hb dX3_parseNumber_52 rfl (lv_at hl 0 rfl) ?_
          refine va_get (D := (dC, dI)) (ci := 5) (v := .ref aT_signs) (C := RX3) (T := TX3) (N := 6) hx hb hts hinX3 hown hK hP 0 rfl rfl 1 (by decide) hf_9 (fun _ h9 => h9) rfl dX3_parseNumber_53 ?_
          refine lv_iload hx hb dX3_parseNumber_56 (lv_at hl 4 rfl) ?_
          obtain ⟨c_7, h⟩ := gk_ck_s h
          refine va_iald hx hb hK hP 1 0 rfl rfl c_7 dX3_parseNumber_58 ?_
          refine lv_iadd hx hb dX3_parseNumber_59 ?_
          refine lv_bipush (v := 48) hx hb dX3_parseNumber_60 (by decide) ?_
          refine lv_isub hx hb dX3_parseNumber_62 ?_
          refine lv_bipush (v := 32) hx hb dX3_parseNumber_63 (by decide) ?_
          refine va_mmin hx hb (hml.trans hl.1.symm) hown hm_49 hms_min hmi hmc_min (Nat.le_of_ble_eq_true rfl) (Nat.le_of_ble_eq_true rfl) (Nat.zero_le _) (Nat.zero_le _) dX3_parseNumber_65 ?_
          refine va_put (D := (dC, dI)) (ci := 5) (v := .int (if 32 < (((zT.2 * 10) + (zT_signs x4.toNatClampNeg)) - 48) then 32 else (((zT.2 * 10) + (zT_signs x4.toNatClampNeg)) - 48))) (ty := .int) (C := RX3) (T := TX3) (N := 6) hx hb hts hinX3 tyX3 tyX3_ok nmX3 hown hK hP hD hS 0 rfl rfl 5 (by decide) hf_38 (fun _ h9 => h9) rfl (by decide +kernel) rfl rfl (Nat.le_of_ble_eq_true rfl) dX3_parseNumber_68 (fun H locs hP hD hS => ?_)
          have hP : va_P (dC, dI) vwCl [(aT, .inr (5, [.int zT.1, .ref aT_signs, .ref aT_members, .ref aT_shortest, .ref aT_longestTimes, .int (if 32 < (((zT.2 * 10) + (zT_signs x4.toNatClampNeg)) - 48) then 32 else (((zT.2 * 10) + (zT_signs x4.toNatClampNeg)) - 48))])), (aT_signs, .inl (cyI, 60, .inl zT_signs))] H := hP
          have hD : va_D A [(aT, .inr (5, [.int zT.1, .ref aT_signs, .ref aT_members, .ref aT_shortest, .ref aT_longestTimes, .int (if 32 < (((zT.2 * 10) + (zT_signs x4.toNatClampNeg)) - 48) then 32 else (((zT.2 * 10) + (zT_signs x4.toNatClampNeg)) - 48))])), (aT_signs, .inl (cyI, 60, .inl zT_signs))] := hD
          refine lv_iinc (v := x4 + 1) (lv' := [(4, .int (x4 + 1)), (0, .ref aT), (1, .int x1), (2, .int x2), (3, .int x3)]) hx hb dX3_parseNumber_71 hl (k := 4) rfl rfl (by decide) rfl (fun ls hl => ?_)
          refine lv_goto (tgt := 22) hx hb dX3_parseNumber_74 (by decide) ?_
          exact ih x1 x2 x3 (x4 + 1) ((zT.1, if 32 < (((zT.2 * 10) + (zT_signs x4.toNatClampNeg)) - 48) then 32 else (((zT.2 * 10) + (zT_signs x4.toNatClampNeg)) - 48))) h _ _ _ hP hD hS (lv_sub hl [1, 2, 3, 4, 0] rfl)
  have h : (gk_bd (m_X3_signAt F p1 ((zT.1, 0)) zT_signs) (fun v8 => (if v8 = 48 then (some ((((-1)) - p1, (zT.1, 0)))) else m_X3_parseNumber_L22 F zT_signs F p1 p2 p3 p1 ((zT.1, 0))))) = some r0 := h
  have hH : True := trivial
  refine lv_aload_n hx hb dX3_parseNumber_0 rfl (lv_at hl 0 rfl) ?_
  refine lv_iconst (v := 0) hx hb dX3_parseNumber_1 (by decide) ?_
  refine va_put (D := (dC, dI)) (ci := 5) (v := .int 0) (ty := .int) (C := RX3) (T := TX3) (N := 6) hx hb hts hinX3 tyX3 tyX3_ok nmX3 hown hK hP hD hS 0 rfl rfl 5 (by decide) hf_38 (fun _ h9 => h9) rfl (by decide +kernel) rfl rfl (Nat.le_of_ble_eq_true rfl) dX3_parseNumber_2 (fun H locs hP hD hS => ?_)
  have hP : va_P (dC, dI) vwCl [(aT, .inr (5, [.int zT.1, .ref aT_signs, .ref aT_members, .ref aT_shortest, .ref aT_longestTimes, .int 0])), (aT_signs, .inl (cyI, 60, .inl zT_signs))] H := hP
  have hD : va_D A [(aT, .inr (5, [.int zT.1, .ref aT_signs, .ref aT_members, .ref aT_shortest, .ref aT_longestTimes, .int 0])), (aT_signs, .inl (cyI, 60, .inl zT_signs))] := hD
  refine lv_aload_n hx hb dX3_parseNumber_5 rfl (lv_at hl 0 rfl) ?_
  refine lv_iload_n hx hb dX3_parseNumber_6 rfl (lv_at hl 1 rfl) ?_
  obtain ⟨v8, hc_8, h⟩ := gk_bd_s h
  have hPc := hP.sub (ws' := [(aT, .inr (5, [.int zT.1, .ref aT_signs, .ref aT_members, .ref aT_shortest, .ref aT_longestTimes, .int 0])), (aT_signs, .inl (cyI, 60, .inl zT_signs))]) [0, 1] rfl
  have hDc := hD.sub (ws' := [(aT, .inr (5, [.int zT.1, .ref aT_signs, .ref aT_members, .ref aT_shortest, .ref aT_longestTimes, .int 0])), (aT_signs, .inl (cyI, 60, .inl zT_signs))]) [0, 1] (by decide) rfl
  have hFc := va_free (wc := [(aT, .inr (5, [.int zT.1, .ref aT_signs, .ref aT_members, .ref aT_shortest, .ref aT_longestTimes, .int 0])), (aT_signs, .inl (cyI, 60, .inl zT_signs))]) hD hS hA [0, 1] rfl
  refine va_calli (va_runV (As := [.int p1]) (rest := []) ⟨hx, hb, hml, hown, hts⟩ (c_X3_signAt l dC dI cyI cyJ cyZ F aT aT_signs aT_members aT_shortest aT_longestTimes H.size p1 ((zT.1, 0)) zT_signs v8 hc_8) (cwV 1 hts gX3_parseNumber_X3_signAt rfl rfl rfl (by decide +kernel) ⟨Nat.le_of_ble_eq_true rfl, Nat.le_of_ble_eq_true rfl⟩) ⟨fun a U g mk q => by obtain ⟨q0, q1, qP, qK, qD⟩ := q; exact ⟨q0, q1, qP, va_K.moved (u := U) (U := U.calling g mk a) (Vm.Alike.refl U.vm) qK, qD⟩, va_recv hK hP (ci := 5) (q0 := 0) rfl rfl, fun U hU hW => ⟨rfl, by rw [hU], by rw [hU]; exact hPc, va_K.moved hW.alike hK, hDc.weaken (fun _ _ _ _ => trivial)⟩⟩ rfl rfl hl.1 rfl (lv_room (Nat.le_of_ble_eq_true rfl)) dX3_parseNumber_7 ⟨Nat.zero_le _, Nat.zero_le _⟩) hS (fun q _ h => hFc q h) hFc (fun r_8 u_8 t_8 H1 locs ht hvm hw hB hz1 hk1 hS => ?_)
  have hw := hw.symm; subst hw
  obtain ⟨hP1, hK1, hD1⟩ := hB
  rw [ht] at hP1
  obtain ⟨hP, hD⟩ := va_join (wr := []) (w1 := [(aT, .inr (5, [.int zT.1, .ref aT_signs, .ref aT_members, .ref aT_shortest, .ref aT_longestTimes, .int 0])), (aT_signs, .inl (cyI, 60, .inl zT_signs))]) hP hD [0, 1] [] rfl rfl (by decide) (by decide) hk1 hFc hP1 hD1
  generalize H1 = H at hP hS ⊢
  have hP := hP.sub (ws' := [(aT, .inr (5, [.int zT.1, .ref aT_signs, .ref aT_members, .ref aT_shortest, .ref aT_longestTimes, .int 0])), (aT_signs, .inl (cyI, 60, .inl zT_signs))]) [0, 1] rfl
  have hD := hD.sub (ws' := [(aT, .inr (5, [.int zT.1, .ref aT_signs, .ref aT_members, .ref aT_shortest, .ref aT_longestTimes, .int 0])), (aT_signs, .inl (cyI, 60, .inl zT_signs))]) [0, 1] (by decide) rfl
  clear hPc hDc hFc hP1 hK1 hD1
  refine lv_bipush (v := 48) hx hb dX3_parseNumber_10 (by decide) ?_
  refine lv_icmp_ne (tgt := 19) hx hb dX3_parseNumber_12 (by decide) (fun c_9 => ?_) (fun c_9 => ?_)
  · have h := gk_mf c_9 h
    refine lv_iload_n hx hb dX3_parseNumber_19 rfl (lv_at hl 1 rfl) ?_
    refine lv_istore (lv' := [(4, .int p1), (0, .ref aT), (1, .int p1), (2, .int p2), (3, .int p3)]) hx hb dX3_parseNumber_20 hl (by decide) rfl (fun ls hl => ?_)
    exact w_L22 F p1 p2 p3 p1 ((zT.1, 0)) h _ _ _ hP hD hS (lv_sub hl [1, 2, 3, 4, 0] rfl)
  · have h := gk_mt c_9 h
    refine lv_iconst (v := (-1)) hx hb dX3_parseNumber_15 (by decide) ?_
    refine lv_iload_n hx hb dX3_parseNumber_16 rfl (lv_at hl 1 rfl) ?_
    refine lv_isub hx hb dX3_parseNumber_17 ?_
    exact W.iret hx hb hr (hret _ _ (((-1)) - p1) ((zT.1, 0)) (Option.some.inj h) hP hD hS) hS.2.2 dX3_parseNumber_18
/-! X3_parseLetters -/
noncomputable def m_X3_parseLetters_J67 (F : Nat) (zT : Int32 × Int32) (zT_signs : Nat → Int32)  (x1 : Int32) (x4 : Int32) (x6 : Int32) (zT_members : Nat → Int32) : Option (Int32 × ((Nat → Int32))) := (gk_ck x1 5 ((if x4 = 0 then (some ((((-1)) - x6, upd zT_members x1.toNatClampNeg x4))) else (gk_bd (m_X3_signAt F x6 zT zT_signs) (fun v3 => (gk_bd (m_X3_isDigit F v3) (fun v4 => (if v4 = 0 then (some ((((-1)) - x6, upd zT_members x1.toNatClampNeg x4))) else (some ((x6, upd zT_members x1.toNatClampNeg x4)))))))))))
noncomputable def m_X3_parseLetters_L9 (F : Nat) (zT : Int32 × Int32) (zT_signs : Nat → Int32)  (n : Nat) : (Int32) → (Int32) → (Int32) → (Int32) → (Int32) → (Nat → Int32) → Option (Int32 × ((Nat → Int32))) := Nat.rec (motive := fun _ => (Int32) → (Int32) → (Int32) → (Int32) → (Int32) → (Nat → Int32) → Option (Int32 × ((Nat → Int32)))) (fun _ _ _ _ _ _ => none) (fun _ ih => fun x1 x3 x4 x5 x6 zT_members => (if zT.1 ≤ x6 then m_X3_parseLetters_J67 F zT zT_signs x1 x4 x6 zT_members else (gk_ck x6 60 ((if ((zT_signs x6.toNatClampNeg) - 65) < x5 then m_X3_parseLetters_J67 F zT zT_signs x1 x4 x6 zT_members else (if ((zT_signs x6.toNatClampNeg) - 65) < x3 then ih x1 x3 (x4 ||| (1 <<< (((zT_signs x6.toNatClampNeg) - 65) &&& 31))) (((zT_signs x6.toNatClampNeg) - 65) + 1) (x6 + 1) zT_members else m_X3_parseLetters_J67 F zT zT_signs x1 x4 x6 zT_members)))))) n
noncomputable def m_X3_parseLetters (F : Nat) (p1 : Int32) (p2 : Int32) (p3 : Int32) (zT : Int32 × Int32) (zT_signs : Nat → Int32) (zT_members : Nat → Int32) : Option (Int32 × ((Nat → Int32))) := m_X3_parseLetters_L9 F zT zT_signs F p1 p3 0 0 p2 zT_members
abbrev rm_X3_parseLetters : Room := { frames := 1, cells := 0, slots := 0, locals := 21 }
set_option maxHeartbeats 40000000 in
set_option maxRecDepth 100000 in
theorem c_X3_parseLetters (l : Launch) (dC : Nat → ClassId) (dI : Nat → Nat → Nat) (cyI cyJ cyZ : ClassId) (F : Nat) (aT aT_signs aT_members aT_shortest aT_longestTimes : Nat) (sz : Nat) (p1 : Int32) (p2 : Int32) (p3 : Int32) (zT : Int32 × Int32) (zT_signs : Nat → Int32) (zT_members : Nat → Int32) (r0 : Int32 × ((Nat → Int32))) (h : m_X3_parseLetters F p1 p2 p3 zT zT_signs zT_members = some r0) : Met l yX3_parseLetters wsX3_parseLetters rm_X3_parseLetters (va_Pc [.ref aT, .int p1, .int p2, .int p3] (fun U => U.heap.size = sz ∧ va_P (dC, dI) vwCl [(aT, .inr (5, [.int zT.1, .ref aT_signs, .ref aT_members, .ref aT_shortest, .ref aT_longestTimes, .int zT.2])), (aT_signs, .inl (cyI, 60, .inl zT_signs)), (aT_members, .inl (cyI, 5, .inl zT_members))] U.heap ∧ va_K (dC, dI) vwCl [(cyI, .int), (cyJ, .long), (cyZ, .boolean)] U ∧ va_D (fun _ => True) [(aT, .inr (5, [.int zT.1, .ref aT_signs, .ref aT_members, .ref aT_shortest, .ref aT_longestTimes, .int zT.2])), (aT_signs, .inl (cyI, 60, .inl zT_signs)), (aT_members, .inl (cyI, 5, .inl zT_members))])) (va_Qi (fun (r : Int32) (u : (Nat → Int32)) => (r, u) = r0) (fun u t => va_P (dC, dI) vwCl [(aT, .inr (5, [.int zT.1, .ref aT_signs, .ref aT_members, .ref aT_shortest, .ref aT_longestTimes, .int zT.2])), (aT_signs, .inl (cyI, 60, .inl zT_signs)), (aT_members, .inl (cyI, 5, .inl u))] t.heap ∧ va_K (dC, dI) vwCl [(cyI, .int), (cyJ, .long), (cyZ, .boolean)] t ∧ va_D (va_A [(aT, .inr (5, [.int zT.1, .ref aT_signs, .ref aT_members, .ref aT_shortest, .ref aT_longestTimes, .int zT.2])), (aT_signs, .inl (cyI, 60, .inl zT_signs)), (aT_members, .inl (cyI, 5, .inl zT_members))] sz) [(aT, .inr (5, [.int zT.1, .ref aT_signs, .ref aT_members, .ref aT_shortest, .ref aT_longestTimes, .int zT.2])), (aT_signs, .inl (cyI, 60, .inl zT_signs)), (aT_members, .inl (cyI, 5, .inl u))]) (va_A [(aT, .inr (5, [.int zT.1, .ref aT_signs, .ref aT_members, .ref aT_shortest, .ref aT_longestTimes, .int zT.2])), (aT_signs, .inl (cyI, 60, .inl zT_signs)), (aT_members, .inl (cyI, 5, .inl zT_members))] sz)) 0 0 (va_A [(aT, .inr (5, [.int zT.1, .ref aT_signs, .ref aT_members, .ref aT_shortest, .ref aT_longestTimes, .int zT.2])), (aT_signs, .inl (cyI, 60, .inl zT_signs)), (aT_members, .inl (cyI, 5, .inl zT_members))] sz) := by
  refine Met.ofW (cc := cX3_parseLetters) (maxL := 8) (ret := (some .int)) (by decide) rfl ?_
  intro p e s m args below meth c s₁ B hml hv
  obtain ⟨hargs, hsz, hP, hK, hD0⟩ := hv
  have hx := B.exec
  have hb := B.bytes
  have hr := B.returns
  have hts := atoms_spec (ws := wsX3_parseLetters) B.pre
  have hown : s.vm.findClass RX3 = some m.cls := findClass_of_methodNamed B.named
  have hlocks := B.notSynchronized
  have hinX3 : ∀ w ∈ u_ws RX3 TX3 6, w ∈ wsX3_parseLetters := by decide +kernel
  have hf_15 := hts (.fieldLink RX3 15 "SignalProofs$PlanText" "members" "[I") (by decide +kernel)
  have hf_24 := hts (.fieldLink RX3 24 "SignalProofs$PlanText" "length" "I") (by decide +kernel)
  have hf_9 := hts (.fieldLink RX3 9 "SignalProofs$PlanText" "signs" "[I") (by decide +kernel)
  subst hsz
  have hD := hD0.self (sz := s.heap.size)
  generalize hAe : va_A [(aT, .inr (5, [.int zT.1, .ref aT_signs, .ref aT_members, .ref aT_shortest, .ref aT_longestTimes, .int zT.2])), (aT_signs, .inl (cyI, 60, .inl zT_signs)), (aT_members, .inl (cyI, 5, .inl zT_members))] s.heap.size = A at hD ⊢
  have hA : ∀ q : Nat, s.heap.size ≤ q → A q := fun q h => by rw [← hAe]; exact Or.inr h
  have hS : va_S A s.heap s.heap [] := va_S.rf
  have hret : ∀ (H : Heap) (locs : List Loc) (r : Int32) (u : (Nat → Int32)), (r, u) = r0 → va_P (dC, dI) vwCl [(aT, .inr (5, [.int zT.1, .ref aT_signs, .ref aT_members, .ref aT_shortest, .ref aT_longestTimes, .int zT.2])), (aT_signs, .inl (cyI, 60, .inl zT_signs)), (aT_members, .inl (cyI, 5, .inl u))] H → va_D A [(aT, .inr (5, [.int zT.1, .ref aT_signs, .ref aT_members, .ref aT_shortest, .ref aT_longestTimes, .int zT.2])), (aT_signs, .inl (cyI, 60, .inl zT_signs)), (aT_members, .inl (cyI, 5, .inl u))] → va_S A s.heap H locs → ∀ t : State, t.heap = H → s.WarmedH t.vm → (va_Qi (fun (r : Int32) (u : (Nat → Int32)) => (r, u) = r0) (fun u t => va_P (dC, dI) vwCl [(aT, .inr (5, [.int zT.1, .ref aT_signs, .ref aT_members, .ref aT_shortest, .ref aT_longestTimes, .int zT.2])), (aT_signs, .inl (cyI, 60, .inl zT_signs)), (aT_members, .inl (cyI, 5, .inl u))] t.heap ∧ va_K (dC, dI) vwCl [(cyI, .int), (cyJ, .long), (cyZ, .boolean)] t ∧ va_D A [(aT, .inr (5, [.int zT.1, .ref aT_signs, .ref aT_members, .ref aT_shortest, .ref aT_longestTimes, .int zT.2])), (aT_signs, .inl (cyI, 60, .inl zT_signs)), (aT_members, .inl (cyI, 5, .inl u))]) A) args s (.returned (some (.int r))) t := fun H locs r u hu hP hD hS t ht hW => ⟨⟨r, u, rfl, hu, by rw [ht]; exact hP, va_K.moved hW.alike hK, hD⟩, hS.F ht⟩
  generalize hQc : va_Qi (fun (r : Int32) (u : (Nat → Int32)) => (r, u) = r0) (fun u t => va_P (dC, dI) vwCl [(aT, .inr (5, [.int zT.1, .ref aT_signs, .ref aT_members, .ref aT_shortest, .ref aT_longestTimes, .int zT.2])), (aT_signs, .inl (cyI, 60, .inl zT_signs)), (aT_members, .inl (cyI, 5, .inl u))] t.heap ∧ va_K (dC, dI) vwCl [(cyI, .int), (cyJ, .long), (cyZ, .boolean)] t ∧ va_D A [(aT, .inr (5, [.int zT.1, .ref aT_signs, .ref aT_members, .ref aT_shortest, .ref aT_longestTimes, .int zT.2])), (aT_signs, .inl (cyI, 60, .inl zT_signs)), (aT_members, .inl (cyI, 5, .inl u))]) A = Qc at hret ⊢
  have hl := lv_entry ([.ref aT, .int p1, .int p2, .int p3]) (n := 8) (Nat.le_of_ble_eq_true rfl)
  rw [hargs, lg_entry_eq, ← hargs]
  generalize (lg_sl ([.ref aT, .int p1, .int p2, .int p3]) ++ List.replicate (8 - (lg_sl ([.ref aT, .int p1, .int p2, .int p3])).length) Slot.unset).toArray = ls at hl ⊢
  have hl : lv_has ls 8 [(0, .ref aT), (1, .int p1), (2, .int p2), (3, .int p3)] := hl
  have w_J67 : ∀ (x1 : Int32) (x4 : Int32) (x6 : Int32) (zT_members : Nat → Int32), m_X3_parseLetters_J67 F zT zT_signs x1 x4 x6 zT_members = some r0 → ∀ (H : Heap) (locs : List Loc) (ls : Array Slot), va_P (dC, dI) vwCl [(aT, .inr (5, [.int zT.1, .ref aT_signs, .ref aT_members, .ref aT_shortest, .ref aT_longestTimes, .int zT.2])), (aT_signs, .inl (cyI, 60, .inl zT_signs)), (aT_members, .inl (cyI, 5, .inl zT_members))] H → va_D A [(aT, .inr (5, [.int zT.1, .ref aT_signs, .ref aT_members, .ref aT_shortest, .ref aT_longestTimes, .int zT.2])), (aT_signs, .inl (cyI, 60, .inl zT_signs)), (aT_members, .inl (cyI, 5, .inl zT_members))] → va_S A s.heap H locs → lv_has ls 8 [(0, .ref aT), (1, .int x1), (4, .int x4), (6, .int x6)] → W p l e (headSpec wsX3_parseLetters rm_X3_parseLetters).room s m args below meth c H locs 0 0 (MQ below Qc args s 0 0 A) (F0 m 67 ls []) := by
    intro x1 x4 x6 zT_members h H locs ls hP hD hS hl
    have h : (gk_ck x1 5 ((if x4 = 0 then (some ((((-1)) - x6, upd zT_members x1.toNatClampNeg x4))) else (gk_bd (m_X3_signAt F x6 zT zT_signs) (fun v3 => (gk_bd (m_X3_isDigit F v3) (fun v4 => (if v4 = 0 then (some ((((-1)) - x6, upd zT_members x1.toNatClampNeg x4))) else (some ((x6, upd zT_members x1.toNatClampNeg x4))))))))))) = some r0 := h
    refine lv_aload_n hx hb dX3_parseLetters_67 rfl (lv_at hl 0 rfl) ?_
    refine va_get (D := (dC, dI)) (ci := 5) (v := .ref aT_members) (C := RX3) (T := TX3) (N := 6) hx hb hts hinX3 hown hK hP 0 rfl rfl 2 (by decide) hf_15 (fun _ h9 => h9) rfl dX3_parseLetters_68 ?_
    refine lv_iload_n hx hb dX3_parseLetters_71 rfl (lv_at hl 1 rfl) ?_
    refine lv_iload hx hb dX3_parseLetters_72 (lv_at hl 2 rfl) ?_
    obtain ⟨c_1, h⟩ := gk_ck_s h
    refine va_iast hx hb hK hP hD hS 2 0 rfl rfl c_1 dX3_parseLetters_74 (fun H locs hP hD hS => ?_)
    have hP : va_P (dC, dI) vwCl [(aT, .inr (5, [.int zT.1, .ref aT_signs, .ref aT_members, .ref aT_shortest, .ref aT_longestTimes, .int zT.2])), (aT_signs, .inl (cyI, 60, .inl zT_signs)), (aT_members, .inl (cyI, 5, .inl (upd zT_members x1.toNatClampNeg x4)))] H := hP
    have hD : va_D A [(aT, .inr (5, [.int zT.1, .ref aT_signs, .ref aT_members, .ref aT_shortest, .ref aT_longestTimes, .int zT.2])), (aT_signs, .inl (cyI, 60, .inl zT_signs)), (aT_members, .inl (cyI, 5, .inl (upd zT_members x1.toNatClampNeg x4)))] := hD
    refine lv_iload hx hb dX3_parseLetters_75 (lv_at hl 2 rfl) ?_
    refine lv_if_eq (tgt := 97) hx hb dX3_parseLetters_77 (by decide) (fun c_2 => ?_) (fun c_2 => ?_)
    · have h := gk_mt c_2 h
      refine lv_iconst (v := (-1)) hx hb dX3_parseLetters_97 (by decide) ?_
      refine lv_iload hx hb dX3_parseLetters_98 (lv_at hl 3 rfl) ?_
      refine lv_isub hx hb dX3_parseLetters_100 ?_
      exact W.iret hx hb hr (hret _ _ (((-1)) - x6) (upd zT_members x1.toNatClampNeg x4) (Option.some.inj h) hP hD hS) hS.2.2 dX3_parseLetters_101
    · have h := gk_mf c_2 h
      refine lv_aload_n hx hb dX3_parseLetters_80 rfl (lv_at hl 0 rfl) ?_
      refine lv_iload hx hb dX3_parseLetters_81 (lv_at hl 3 rfl) ?_
      obtain ⟨v3, hc_3, h⟩ := gk_bd_s h
      have hPc := hP.sub (ws' := [(aT, .inr (5, [.int zT.1, .ref aT_signs, .ref aT_members, .ref aT_shortest, .ref aT_longestTimes, .int zT.2])), (aT_signs, .inl (cyI, 60, .inl zT_signs))]) [0, 1] rfl
      have hDc := hD.sub (ws' := [(aT, .inr (5, [.int zT.1, .ref aT_signs, .ref aT_members, .ref aT_shortest, .ref aT_longestTimes, .int zT.2])), (aT_signs, .inl (cyI, 60, .inl zT_signs))]) [0, 1] (by decide) rfl
      have hFc := va_free (wc := [(aT, .inr (5, [.int zT.1, .ref aT_signs, .ref aT_members, .ref aT_shortest, .ref aT_longestTimes, .int zT.2])), (aT_signs, .inl (cyI, 60, .inl zT_signs))]) hD hS hA [0, 1] rfl
      refine va_calli (va_runV (As := [.int x6]) (rest := []) ⟨hx, hb, hml, hown, hts⟩ (c_X3_signAt l dC dI cyI cyJ cyZ F aT aT_signs aT_members aT_shortest aT_longestTimes H.size x6 zT zT_signs v3 hc_3) (cwV 1 hts gX3_parseLetters_X3_signAt rfl rfl rfl (by decide +kernel) ⟨Nat.le_of_ble_eq_true rfl, Nat.le_of_ble_eq_true rfl⟩) ⟨fun a U g mk q => by obtain ⟨q0, q1, qP, qK, qD⟩ := q; exact ⟨q0, q1, qP, va_K.moved (u := U) (U := U.calling g mk a) (Vm.Alike.refl U.vm) qK, qD⟩, va_recv hK hP (ci := 5) (q0 := 0) rfl rfl, fun U hU hW => ⟨rfl, by rw [hU], by rw [hU]; exact hPc, va_K.moved hW.alike hK, hDc.weaken (fun _ _ _ _ => trivial)⟩⟩ rfl rfl hl.1 rfl (lv_room (Nat.le_of_ble_eq_true rfl)) dX3_parseLetters_83 ⟨Nat.zero_le _, Nat.zero_le _⟩) hS (fun q _ h => hFc q h) hFc (fun r_3 u_3 t_3 H1 locs ht hvm hw hB hz1 hk1 hS => ?_)
      have hw := hw.symm; subst hw
      obtain ⟨hP1, hK1, hD1⟩ := hB
      rw [ht] at hP1
      obtain ⟨hP, hD⟩ := va_join (wr := [(aT_members, .inl (cyI, 5, .inl (upd zT_members x1.toNatClampNeg x4)))]) (w1 := [(aT, .inr (5, [.int zT.1, .ref aT_signs, .ref aT_members, .ref aT_shortest, .ref aT_longestTimes, .int zT.2])), (aT_signs, .inl (cyI, 60, .inl zT_signs))]) hP hD [0, 1] [2] rfl rfl (by decide) (by decide) hk1 hFc hP1 hD1
      generalize H1 = H at hP hS ⊢
      have hP := hP.sub (ws' := [(aT, .inr (5, [.int zT.1, .ref aT_signs, .ref aT_members, .ref aT_shortest, .ref aT_longestTimes, .int zT.2])), (aT_signs, .inl (cyI, 60, .inl zT_signs)), (aT_members, .inl (cyI, 5, .inl (upd zT_members x1.toNatClampNeg x4)))]) [1, 2, 0] rfl
      have hD := hD.sub (ws' := [(aT, .inr (5, [.int zT.1, .ref aT_signs, .ref aT_members, .ref aT_shortest, .ref aT_longestTimes, .int zT.2])), (aT_signs, .inl (cyI, 60, .inl zT_signs)), (aT_members, .inl (cyI, 5, .inl (upd zT_members x1.toNatClampNeg x4)))]) [1, 2, 0] (by decide) rfl
      clear hPc hDc hFc hP1 hK1 hD1
      obtain ⟨v4, hc_4, h⟩ := gk_bd_s h
      have hPc := hP.sub (ws' := []) [] rfl
      have hDc := hD.sub (ws' := []) [] (by decide) rfl
      have hFc := va_free (wc := []) hD hS hA [] rfl
      refine va_calli (va_runS (As := [.int v3]) (rest := []) ⟨hx, hb, hml, hown, hts⟩ (c_X3_isDigit l dC dI cyI cyJ cyZ F  H.size v3 v4 hc_4) (va_cwS 1 hts gX3_parseLetters_X3_isDigit rfl rfl rfl (by decide +kernel) ⟨Nat.le_of_ble_eq_true rfl, Nat.le_of_ble_eq_true rfl⟩) ⟨fun a U g mk q => by obtain ⟨q0, q1, qP, qK, qD⟩ := q; exact ⟨q0, q1, qP, va_K.moved (u := U) (U := U.calling g mk a) (Vm.Alike.refl U.vm) qK, qD⟩, fun U hU hW => ⟨rfl, by rw [hU], by rw [hU]; exact hPc, va_K.moved hW.alike hK, hDc.weaken (fun _ _ _ _ => trivial)⟩⟩ rfl rfl hl.1 rfl (lv_room (Nat.le_of_ble_eq_true rfl)) dX3_parseLetters_86 ⟨Nat.zero_le _, Nat.zero_le _⟩) hS (fun q _ h => hFc q h) hFc (fun r_4 u_4 t_4 H1 locs ht hvm hw hB hz1 hk1 hS => ?_)
      have hw := hw.symm; subst hw
      obtain ⟨hP1, hK1, hD1⟩ := hB
      rw [ht] at hP1
      obtain ⟨hP, hD⟩ := va_join (wr := [(aT, .inr (5, [.int zT.1, .ref aT_signs, .ref aT_members, .ref aT_shortest, .ref aT_longestTimes, .int zT.2])), (aT_signs, .inl (cyI, 60, .inl zT_signs)), (aT_members, .inl (cyI, 5, .inl (upd zT_members x1.toNatClampNeg x4)))]) (w1 := []) hP hD [] [0, 1, 2] rfl rfl (by decide) (by decide) hk1 hFc hP1 hD1
      generalize H1 = H at hP hS ⊢
      have hP := hP.sub (ws' := [(aT, .inr (5, [.int zT.1, .ref aT_signs, .ref aT_members, .ref aT_shortest, .ref aT_longestTimes, .int zT.2])), (aT_signs, .inl (cyI, 60, .inl zT_signs)), (aT_members, .inl (cyI, 5, .inl (upd zT_members x1.toNatClampNeg x4)))]) [0, 1, 2] rfl
      have hD := hD.sub (ws' := [(aT, .inr (5, [.int zT.1, .ref aT_signs, .ref aT_members, .ref aT_shortest, .ref aT_longestTimes, .int zT.2])), (aT_signs, .inl (cyI, 60, .inl zT_signs)), (aT_members, .inl (cyI, 5, .inl (upd zT_members x1.toNatClampNeg x4)))]) [0, 1, 2] (by decide) rfl
      clear hPc hDc hFc hP1 hK1 hD1
      refine lv_if_eq (tgt := 97) hx hb dX3_parseLetters_89 (by decide) (fun c_5 => ?_) (fun c_5 => ?_)
      · have h := gk_mt c_5 h
        refine lv_iconst (v := (-1)) hx hb dX3_parseLetters_97 (by decide) ?_
        refine lv_iload hx hb dX3_parseLetters_98 (lv_at hl 3 rfl) ?_
        refine lv_isub hx hb dX3_parseLetters_100 ?_
        exact W.iret hx hb hr (hret _ _ (((-1)) - x6) (upd zT_members x1.toNatClampNeg x4) (Option.some.inj h) hP hD hS) hS.2.2 dX3_parseLetters_101
      · have h := gk_mf c_5 h
        refine lv_iload hx hb dX3_parseLetters_92 (lv_at hl 3 rfl) ?_
        refine lv_goto (tgt := 101) hx hb dX3_parseLetters_94 (by decide) ?_
        exact W.iret hx hb hr (hret _ _ x6 (upd zT_members x1.toNatClampNeg x4) (Option.some.inj h) hP hD hS) hS.2.2 dX3_parseLetters_101
  have w_L9 : ∀  (n : Nat), ∀ (x1 : Int32) (x3 : Int32) (x4 : Int32) (x5 : Int32) (x6 : Int32) (zT_members : Nat → Int32), (m_X3_parseLetters_L9 F zT zT_signs n) x1 x3 x4 x5 x6 zT_members = some r0 → ∀ (H : Heap) (locs : List Loc) (ls : Array Slot), va_P (dC, dI) vwCl [(aT, .inr (5, [.int zT.1, .ref aT_signs, .ref aT_members, .ref aT_shortest, .ref aT_longestTimes, .int zT.2])), (aT_signs, .inl (cyI, 60, .inl zT_signs)), (aT_members, .inl (cyI, 5, .inl zT_members))] H → va_D A [(aT, .inr (5, [.int zT.1, .ref aT_signs, .ref aT_members, .ref aT_shortest, .ref aT_longestTimes, .int zT.2])), (aT_signs, .inl (cyI, 60, .inl zT_signs)), (aT_members, .inl (cyI, 5, .inl zT_members))] → va_S A s.heap H locs → lv_has ls 8 [(0, .ref aT), (1, .int x1), (3, .int x3), (4, .int x4), (5, .int x5), (6, .int x6)] → W p l e (headSpec wsX3_parseLetters rm_X3_parseLetters).room s m args below meth c H locs 0 0 (MQ below Qc args s 0 0 A) (F0 m 9 ls []) := by
    intro n
    induction n with
    | zero =>
      intro x1 x3 x4 x5 x6 zT_members h
      exact nomatch h
    | succ n ih =>
      intro x1 x3 x4 x5 x6 zT_members h H locs ls hP hD hS hl
      have h : (if zT.1 ≤ x6 then m_X3_parseLetters_J67 F zT zT_signs x1 x4 x6 zT_members else (gk_ck x6 60 ((if ((zT_signs x6.toNatClampNeg) - 65) < x5 then m_X3_parseLetters_J67 F zT zT_signs x1 x4 x6 zT_members else (if ((zT_signs x6.toNatClampNeg) - 65) < x3 then (m_X3_parseLetters_L9 F zT zT_signs n) x1 x3 (x4 ||| (1 <<< (((zT_signs x6.toNatClampNeg) - 65) &&& 31))) (((zT_signs x6.toNatClampNeg) - 65) + 1) (x6 + 1) zT_members else m_X3_parseLetters_J67 F zT zT_signs x1 x4 x6 zT_members))))) = some r0 := h
      refine lv_iload hx hb dX3_parseLetters_9 (lv_at hl 5 rfl) ?_
      refine lv_aload_n hx hb dX3_parseLetters_11 rfl (lv_at hl 0 rfl) ?_
      refine va_get (D := (dC, dI)) (ci := 5) (v := .int zT.1) (C := RX3) (T := TX3) (N := 6) hx hb hts hinX3 hown hK hP 0 rfl rfl 0 (by decide) hf_24 (fun _ h9 => h9) rfl dX3_parseLetters_12 ?_
      refine lv_icmp_ge (tgt := 67) hx hb dX3_parseLetters_15 (by decide) (fun c_6 => ?_) (fun c_6 => ?_)
      · have h := gk_mt c_6 h
        exact w_J67 x1 x4 x6 zT_members h _ _ _ hP hD hS (lv_sub hl [0, 1, 3, 5] rfl)
      · have h := gk_mf c_6 h
        refine lv_aload_n hx hb dX3_parseLetters_18 rfl (lv_at hl 0 rfl) ?_
        refine va_get (D := (dC, dI)) (ci := 5) (v := .ref aT_signs) (C := RX3) (T := TX3) (N := 6) hx hb hts hinX3 hown hK hP 0 rfl rfl 1 (by decide) hf_9 (fun _ h9 => h9) rfl dX3_parseLetters_19 ?_
        refine lv_iload hx hb dX3_parseLetters_22 (lv_at hl 5 rfl) ?_
        obtain ⟨c_7, h⟩ := gk_ck_s h
        refine va_iald hx hb hK hP 1 0 rfl rfl c_7 dX3_parseLetters_24 ?_
        refine lv_bipush (v := 65) hx hb dX3_parseLetters_25 (by decide) ?_
        refine lv_isub hx hb dX3_parseLetters_27 ?_
        refine lv_istore (lv' := [(7, .int ((zT_signs x6.toNatClampNeg) - 65)), (0, .ref aT), (1, .int x1), (3, .int x3), (4, .int x4), (5, .int x5), (6, .int x6)]) hx hb dX3_parseLetters_28 hl (by decide) rfl (fun ls hl => ?_)
        refine lv_iload hx hb dX3_parseLetters_30 (lv_at hl 0 rfl) ?_
        refine lv_iload hx hb dX3_parseLetters_32 (lv_at hl 5 rfl) ?_
        refine lv_icmp_lt (tgt := 67) hx hb dX3_parseLetters_34 (by decide) (fun c_8 => ?_) (fun c_8 => ?_)
        · have h := gk_mt c_8 h
          exact w_J67 x1 x4 x6 zT_members h _ _ _ hP hD hS (lv_sub hl [1, 2, 4, 6] rfl)
        · have h := gk_mf c_8 h
          refine lv_iload hx hb dX3_parseLetters_37 (lv_at hl 0 rfl) ?_
          refine lv_iload_n hx hb dX3_parseLetters_39 rfl (lv_at hl 3 rfl) ?_
          refine lv_icmp_lt (tgt := 46) hx hb dX3_parseLetters_40 (by decide) (fun c_9 => ?_) (fun c_9 => ?_)
          · have h := gk_mt c_9 h
            refine lv_iload hx hb dX3_parseLetters_46 (lv_at hl 4 rfl) ?_
            refine lv_iconst (v := 1) hx hb dX3_parseLetters_48 (by decide) ?_
            refine lv_iload hx hb dX3_parseLetters_49 (lv_at hl 0 rfl) ?_
            refine lv_ishl hx hb dX3_parseLetters_51 ?_
            refine lv_ior hx hb dX3_parseLetters_52 ?_
            refine lv_istore (lv' := [(4, .int (x4 ||| (1 <<< (((zT_signs x6.toNatClampNeg) - 65) &&& 31)))), (7, .int ((zT_signs x6.toNatClampNeg) - 65)), (0, .ref aT), (1, .int x1), (3, .int x3), (5, .int x5), (6, .int x6)]) hx hb dX3_parseLetters_53 hl (by decide) rfl (fun ls hl => ?_)
            refine lv_iload hx hb dX3_parseLetters_55 (lv_at hl 1 rfl) ?_
            refine lv_iconst (v := 1) hx hb dX3_parseLetters_57 (by decide) ?_
            refine lv_iadd hx hb dX3_parseLetters_58 ?_
            refine lv_istore (lv' := [(5, .int (((zT_signs x6.toNatClampNeg) - 65) + 1)), (4, .int (x4 ||| (1 <<< (((zT_signs x6.toNatClampNeg) - 65) &&& 31)))), (7, .int ((zT_signs x6.toNatClampNeg) - 65)), (0, .ref aT), (1, .int x1), (3, .int x3), (6, .int x6)]) hx hb dX3_parseLetters_59 hl (by decide) rfl (fun ls hl => ?_)
            refine lv_iinc (v := x6 + 1) (lv' := [(6, .int (x6 + 1)), (5, .int (((zT_signs x6.toNatClampNeg) - 65) + 1)), (4, .int (x4 ||| (1 <<< (((zT_signs x6.toNatClampNeg) - 65) &&& 31)))), (7, .int ((zT_signs x6.toNatClampNeg) - 65)), (0, .ref aT), (1, .int x1), (3, .int x3)]) hx hb dX3_parseLetters_61 hl (k := 6) rfl rfl (by decide) rfl (fun ls hl => ?_)
            refine lv_goto (tgt := 9) hx hb dX3_parseLetters_64 (by decide) ?_
            exact ih x1 x3 (x4 ||| (1 <<< (((zT_signs x6.toNatClampNeg) - 65) &&& 31))) (((zT_signs x6.toNatClampNeg) - 65) + 1) (x6 + 1) zT_members h _ _ _ hP hD hS (lv_sub hl [4, 5, 6, 2, 1, 0] rfl)
          · have h := gk_mf c_9 h
            refine lv_goto (tgt := 67) hx hb dX3_parseLetters_43 (by decide) ?_
            exact w_J67 x1 x4 x6 zT_members h _ _ _ hP hD hS (lv_sub hl [1, 2, 4, 6] rfl)
  have h : m_X3_parseLetters_L9 F zT zT_signs F p1 p3 0 0 p2 zT_members = some r0 := h
  have hH : True := trivial
  refine lv_iconst (v := 0) hx hb dX3_parseLetters_0 (by decide) ?_
  refine lv_istore (lv' := [(4, .int 0), (0, .ref aT), (1, .int p1), (2, .int p2), (3, .int p3)]) hx hb dX3_parseLetters_1 hl (by decide) rfl (fun ls hl => ?_)
  refine lv_iconst (v := 0) hx hb dX3_parseLetters_3 (by decide) ?_
  refine lv_istore (lv' := [(5, .int 0), (4, .int 0), (0, .ref aT), (1, .int p1), (2, .int p2), (3, .int p3)]) hx hb dX3_parseLetters_4 hl (by decide) rfl (fun ls hl => ?_)
  refine lv_iload_n hx hb dX3_parseLetters_6 rfl (lv_at hl 4 rfl) ?_
  refine lv_istore (lv' := [(6, .int p2), (5, .int 0), (4, .int 0), (0, .ref aT), (1, .int p1), (2, .int p2), (3, .int p3)]) hx hb dX3_parseLetters_7 hl (by decide) rfl (fun ls hl => ?_)
  exact w_L9 F p1 p3 0 0 p2 zT_members h _ _ _ hP hD hS (lv_sub hl [3, 4, 6, 2, 1, 0] rfl)
/-! X3_parsePhase -/
noncomputable def m_X3_parsePhase (F : Nat) (p1 : Int32) (p2 : Int32) (p3 : Int32) (zT : Int32 × Int32) (zT_signs : Nat → Int32) (zT_members : Nat → Int32) (zT_shortest : Nat → Int32) (zT_longestTimes : Nat → Int32) : Option (Int32 × ((Int32 × Int32) × (Nat → Int32) × (Nat → Int32) × (Nat → Int32))) := (gk_bd (m_X3_parseLetters F p1 p2 p3 zT zT_signs zT_members) (fun v1 => (if 0 ≤ v1.1 then (gk_bd (m_X3_parseNumber F v1.1 1 15 zT zT_signs) (fun v3 => (if 0 ≤ v3.1 then (gk_ck p1 5 ((gk_bd (m_X3_signAt F v3.1 v3.2 zT_signs) (fun v6 => (if v6 = 45 then (gk_bd (m_X3_parseNumber F (v3.1 + 1) v3.2.2 31 v3.2 zT_signs) (fun v8 => (gk_ck p1 5 ((some ((v8.1, (v8.2, v1.2, upd zT_shortest p1.toNatClampNeg v3.2.2, upd zT_longestTimes p1.toNatClampNeg v8.2.2)))))))) else (some ((((-1)) - v3.1, (v3.2, v1.2, upd zT_shortest p1.toNatClampNeg v3.2.2, zT_longestTimes))))))))) else (some ((v3.1, (v3.2, v1.2, zT_shortest, zT_longestTimes))))))) else (some ((v1.1, (zT, v1.2, zT_shortest, zT_longestTimes)))))))
abbrev rm_X3_parsePhase : Room := { frames := 2, cells := 0, slots := 0, locals := 48 }
set_option maxHeartbeats 40000000 in
set_option maxRecDepth 100000 in
theorem c_X3_parsePhase (l : Launch) (dC : Nat → ClassId) (dI : Nat → Nat → Nat) (cyI cyJ cyZ : ClassId) (F : Nat) (aT aT_signs aT_members aT_shortest aT_longestTimes : Nat) (sz : Nat) (p1 : Int32) (p2 : Int32) (p3 : Int32) (zT : Int32 × Int32) (zT_signs : Nat → Int32) (zT_members : Nat → Int32) (zT_shortest : Nat → Int32) (zT_longestTimes : Nat → Int32) (r0 : Int32 × ((Int32 × Int32) × (Nat → Int32) × (Nat → Int32) × (Nat → Int32))) (h : m_X3_parsePhase F p1 p2 p3 zT zT_signs zT_members zT_shortest zT_longestTimes = some r0) : Met l yX3_parsePhase wsX3_parsePhase rm_X3_parsePhase (va_Pc [.ref aT, .int p1, .int p2, .int p3] (fun U => U.heap.size = sz ∧ va_P (dC, dI) vwCl [(aT, .inr (5, [.int zT.1, .ref aT_signs, .ref aT_members, .ref aT_shortest, .ref aT_longestTimes, .int zT.2])), (aT_signs, .inl (cyI, 60, .inl zT_signs)), (aT_members, .inl (cyI, 5, .inl zT_members)), (aT_shortest, .inl (cyI, 5, .inl zT_shortest)), (aT_longestTimes, .inl (cyI, 5, .inl zT_longestTimes))] U.heap ∧ va_K (dC, dI) vwCl [(cyI, .int), (cyJ, .long), (cyZ, .boolean)] U ∧ va_D (fun _ => True) [(aT, .inr (5, [.int zT.1, .ref aT_signs, .ref aT_members, .ref aT_shortest, .ref aT_longestTimes, .int zT.2])), (aT_signs, .inl (cyI, 60, .inl zT_signs)), (aT_members, .inl (cyI, 5, .inl zT_members)), (aT_shortest, .inl (cyI, 5, .inl zT_shortest)), (aT_longestTimes, .inl (cyI, 5, .inl zT_longestTimes))])) (va_Qi (fun (r : Int32) (u : (Int32 × Int32) × (Nat → Int32) × (Nat → Int32) × (Nat → Int32)) => (r, u) = r0) (fun u t => va_P (dC, dI) vwCl [(aT, .inr (5, [.int u.1.1, .ref aT_signs, .ref aT_members, .ref aT_shortest, .ref aT_longestTimes, .int u.1.2])), (aT_signs, .inl (cyI, 60, .inl zT_signs)), (aT_members, .inl (cyI, 5, .inl u.2.1)), (aT_shortest, .inl (cyI, 5, .inl u.2.2.1)), (aT_longestTimes, .inl (cyI, 5, .inl u.2.2.2))] t.heap ∧ va_K (dC, dI) vwCl [(cyI, .int), (cyJ, .long), (cyZ, .boolean)] t ∧ va_D (va_A [(aT, .inr (5, [.int zT.1, .ref aT_signs, .ref aT_members, .ref aT_shortest, .ref aT_longestTimes, .int zT.2])), (aT_signs, .inl (cyI, 60, .inl zT_signs)), (aT_members, .inl (cyI, 5, .inl zT_members)), (aT_shortest, .inl (cyI, 5, .inl zT_shortest)), (aT_longestTimes, .inl (cyI, 5, .inl zT_longestTimes))] sz) [(aT, .inr (5, [.int u.1.1, .ref aT_signs, .ref aT_members, .ref aT_shortest, .ref aT_longestTimes, .int u.1.2])), (aT_signs, .inl (cyI, 60, .inl zT_signs)), (aT_members, .inl (cyI, 5, .inl u.2.1)), (aT_shortest, .inl (cyI, 5, .inl u.2.2.1)), (aT_longestTimes, .inl (cyI, 5, .inl u.2.2.2))]) (va_A [(aT, .inr (5, [.int zT.1, .ref aT_signs, .ref aT_members, .ref aT_shortest, .ref aT_longestTimes, .int zT.2])), (aT_signs, .inl (cyI, 60, .inl zT_signs)), (aT_members, .inl (cyI, 5, .inl zT_members)), (aT_shortest, .inl (cyI, 5, .inl zT_shortest)), (aT_longestTimes, .inl (cyI, 5, .inl zT_longestTimes))] sz)) 0 0 (va_A [(aT, .inr (5, [.int zT.1, .ref aT_signs, .ref aT_members, .ref aT_shortest, .ref aT_longestTimes, .int zT.2])), (aT_signs, .inl (cyI, 60, .inl zT_signs)), (aT_members, .inl (cyI, 5, .inl zT_members)), (aT_shortest, .inl (cyI, 5, .inl zT_shortest)), (aT_longestTimes, .inl (cyI, 5, .inl zT_longestTimes))] sz) := by
  refine Met.ofW (cc := cX3_parsePhase) (maxL := 5) (ret := (some .int)) (by decide) rfl ?_
  intro p e s m args below meth c s₁ B hml hv
  obtain ⟨hargs, hsz, hP, hK, hD0⟩ := hv
  have hx := B.exec
  have hb := B.bytes
  have hr := B.returns
  have hts := atoms_spec (ws := wsX3_parsePhase) B.pre
  have hown : s.vm.findClass RX3 = some m.cls := findClass_of_methodNamed B.named
  have hlocks := B.notSynchronized
  have hinX3 : ∀ w ∈ u_ws RX3 TX3 6, w ∈ wsX3_parsePhase := by decide +kernel
  have hf_18 := hts (.fieldLink RX3 18 "SignalProofs$PlanText" "shortest" "[I") (by decide +kernel)
  have hf_38 := hts (.fieldLink RX3 38 "SignalProofs$PlanText" "value" "I") (by decide +kernel)
  have hf_21 := hts (.fieldLink RX3 21 "SignalProofs$PlanText" "longestTimes" "[I") (by decide +kernel)
  subst hsz
  have hD := hD0.self (sz := s.heap.size)
  generalize hAe : va_A [(aT, .inr (5, [.int zT.1, .ref aT_signs, .ref aT_members, .ref aT_shortest, .ref aT_longestTimes, .int zT.2])), (aT_signs, .inl (cyI, 60, .inl zT_signs)), (aT_members, .inl (cyI, 5, .inl zT_members)), (aT_shortest, .inl (cyI, 5, .inl zT_shortest)), (aT_longestTimes, .inl (cyI, 5, .inl zT_longestTimes))] s.heap.size = A at hD ⊢
  have hA : ∀ q : Nat, s.heap.size ≤ q → A q := fun q h => by rw [← hAe]; exact Or.inr h
  have hS : va_S A s.heap s.heap [] := va_S.rf
  have hret : ∀ (H : Heap) (locs : List Loc) (r : Int32) (u : (Int32 × Int32) × (Nat → Int32) × (Nat → Int32) × (Nat → Int32)), (r, u) = r0 → va_P (dC, dI) vwCl [(aT, .inr (5, [.int u.1.1, .ref aT_signs, .ref aT_members, .ref aT_shortest, .ref aT_longestTimes, .int u.1.2])), (aT_signs, .inl (cyI, 60, .inl zT_signs)), (aT_members, .inl (cyI, 5, .inl u.2.1)), (aT_shortest, .inl (cyI, 5, .inl u.2.2.1)), (aT_longestTimes, .inl (cyI, 5, .inl u.2.2.2))] H → va_D A [(aT, .inr (5, [.int u.1.1, .ref aT_signs, .ref aT_members, .ref aT_shortest, .ref aT_longestTimes, .int u.1.2])), (aT_signs, .inl (cyI, 60, .inl zT_signs)), (aT_members, .inl (cyI, 5, .inl u.2.1)), (aT_shortest, .inl (cyI, 5, .inl u.2.2.1)), (aT_longestTimes, .inl (cyI, 5, .inl u.2.2.2))] → va_S A s.heap H locs → ∀ t : State, t.heap = H → s.WarmedH t.vm → (va_Qi (fun (r : Int32) (u : (Int32 × Int32) × (Nat → Int32) × (Nat → Int32) × (Nat → Int32)) => (r, u) = r0) (fun u t => va_P (dC, dI) vwCl [(aT, .inr (5, [.int u.1.1, .ref aT_signs, .ref aT_members, .ref aT_shortest, .ref aT_longestTimes, .int u.1.2])), (aT_signs, .inl (cyI, 60, .inl zT_signs)), (aT_members, .inl (cyI, 5, .inl u.2.1)), (aT_shortest, .inl (cyI, 5, .inl u.2.2.1)), (aT_longestTimes, .inl (cyI, 5, .inl u.2.2.2))] t.heap ∧ va_K (dC, dI) vwCl [(cyI, .int), (cyJ, .long), (cyZ, .boolean)] t ∧ va_D A [(aT, .inr (5, [.int u.1.1, .ref aT_signs, .ref aT_members, .ref aT_shortest, .ref aT_longestTimes, .int u.1.2])), (aT_signs, .inl (cyI, 60, .inl zT_signs)), (aT_members, .inl (cyI, 5, .inl u.2.1)), (aT_shortest, .inl (cyI, 5, .inl u.2.2.1)), (aT_longestTimes, .inl (cyI, 5, .inl u.2.2.2))]) A) args s (.returned (some (.int r))) t := fun H locs r u hu hP hD hS t ht hW => ⟨⟨r, u, rfl, hu, by rw [ht]; exact hP, va_K.moved hW.alike hK, hD⟩, hS.F ht⟩
  generalize hQc : va_Qi (fun (r : Int32) (u : (Int32 × Int32) × (Nat → Int32) × (Nat → Int32) × (Nat → Int32)) => (r, u) = r0) (fun u t => va_P (dC, dI) vwCl [(aT, .inr (5, [.int u.1.1, .ref aT_signs, .ref aT_members, .ref aT_shortest, .ref aT_longestTimes, .int u.1.2])), (aT_signs, .inl (cyI, 60, .inl zT_signs)), (aT_members, .inl (cyI, 5, .inl u.2.1)), (aT_shortest, .inl (cyI, 5, .inl u.2.2.1)), (aT_longestTimes, .inl (cyI, 5, .inl u.2.2.2))] t.heap ∧ va_K (dC, dI) vwCl [(cyI, .int), (cyJ, .long), (cyZ, .boolean)] t ∧ va_D A [(aT, .inr (5, [.int u.1.1, .ref aT_signs, .ref aT_members, .ref aT_shortest, .ref aT_longestTimes, .int u.1.2])), (aT_signs, .inl (cyI, 60, .inl zT_signs)), (aT_members, .inl (cyI, 5, .inl u.2.1)), (aT_shortest, .inl (cyI, 5, .inl u.2.2.1)), (aT_longestTimes, .inl (cyI, 5, .inl u.2.2.2))]) A = Qc at hret ⊢
  have hl := lv_entry ([.ref aT, .int p1, .int p2, .int p3]) (n := 5) (Nat.le_of_ble_eq_true rfl)
  rw [hargs, lg_entry_eq, ← hargs]
  generalize (lg_sl ([.ref aT, .int p1, .int p2, .int p3]) ++ List.replicate (5 - (lg_sl ([.ref aT, .int p1, .int p2, .int p3])).length) Slot.unset).toArray = ls at hl ⊢
  have hl : lv_has ls 5 [(0, .ref aT), (1, .int p1), (2, .int p2), (3, .int p3)] := hl
  have h : (gk_bd (m_X3_parseLetters F p1 p2 p3 zT zT_signs zT_members) (fun v1 => (if 0 ≤ v1.1 then (gk_bd (m_X3_parseNumber F v1.1 1 15 zT zT_signs) (fun v3 => (if 0 ≤ v3.1 then (gk_ck p1 5 ((gk_bd (m_X3_signAt F v3.1 v3.2 zT_signs) (fun v6 => (if v6 = 45 then (gk_bd (m_X3_parseNumber F (v3.1 + 1) v3.2.2 31 v3.2 zT_signs) (fun v8 => (gk_ck p1 5 ((some ((v8.1, (v8.2, v1.2, upd zT_shortest p1.toNatClampNeg v3.2.2, upd zT_longestTimes p1.toNatClampNeg v8.2.2)))))))) else (some ((((-1)) - v3.1, (v3.2, v1.2, upd zT_shortest p1.toNatClampNeg v3.2.2, zT_longestTimes))))))))) else (some ((v3.1, (v3.2, v1.2, zT_shortest, zT_longestTimes))))))) else (some ((v1.1, (zT, v1.2, zT_shortest, zT_longestTimes))))))) = some r0 := h
  have hH : True := trivial
  refine lv_aload_n hx hb dX3_parsePhase_0 rfl (lv_at hl 0 rfl) ?_
  refine lv_iload_n hx hb dX3_parsePhase_1 rfl (lv_at hl 1 rfl) ?_
  refine lv_iload_n hx hb dX3_parsePhase_2 rfl (lv_at hl 2 rfl) ?_
  refine lv_iload_n hx hb dX3_parsePhase_3 rfl (lv_at hl 3 rfl) ?_
  obtain ⟨v1, hc_1, h⟩ := gk_bd_s h
  have hPc := hP.sub (ws' := [(aT, .inr (5, [.int zT.1, .ref aT_signs, .ref aT_members, .ref aT_shortest, .ref aT_longestTimes, .int zT.2])), (aT_signs, .inl (cyI, 60, .inl zT_signs)), (aT_members, .inl (cyI, 5, .inl zT_members))]) [0, 1, 2] rfl
  have hDc := hD.sub (ws' := [(aT, .inr (5, [.int zT.1, .ref aT_signs, .ref aT_members, .ref aT_shortest, .ref aT_longestTimes, .int zT.2])), (aT_signs, .inl (cyI, 60, .inl zT_signs)), (aT_members, .inl (cyI, 5, .inl zT_members))]) [0, 1, 2] (by decide) rfl
  have hFc := va_free (wc := [(aT, .inr (5, [.int zT.1, .ref aT_signs, .ref aT_members, .ref aT_shortest, .ref aT_longestTimes, .int zT.2])), (aT_signs, .inl (cyI, 60, .inl zT_signs)), (aT_members, .inl (cyI, 5, .inl zT_members))]) hD hS hA [0, 1, 2] rfl
  refine va_calli (va_runV (As := [.int p1, .int p2, .int p3]) (rest := []) ⟨hx, hb, hml, hown, hts⟩ (c_X3_parseLetters l dC dI cyI cyJ cyZ F aT aT_signs aT_members aT_shortest aT_longestTimes s.heap.size p1 p2 p3 zT zT_signs zT_members v1 hc_1) (cwV 3 hts gX3_parsePhase_X3_parseLetters rfl rfl rfl (by decide +kernel) ⟨Nat.le_of_ble_eq_true rfl, Nat.le_of_ble_eq_true rfl⟩) ⟨fun a U g mk q => by obtain ⟨q0, q1, qP, qK, qD⟩ := q; exact ⟨q0, q1, qP, va_K.moved (u := U) (U := U.calling g mk a) (Vm.Alike.refl U.vm) qK, qD⟩, va_recv hK hP (ci := 5) (q0 := 0) rfl rfl, fun U hU hW => ⟨rfl, by rw [hU], by rw [hU]; exact hPc, va_K.moved hW.alike hK, hDc.weaken (fun _ _ _ _ => trivial)⟩⟩ rfl rfl hl.1 rfl (lv_room (Nat.le_of_ble_eq_true rfl)) dX3_parsePhase_4 ⟨Nat.zero_le _, Nat.zero_le _⟩) hS (fun q _ h => hFc q h) hFc (fun r_1 u_1 t_1 H1 locs ht hvm hw hB hz1 hk1 hS => ?_)
  obtain ⟨rfl, rfl⟩ : r_1 = v1.1 ∧ u_1 = v1.2 := by rw [← hw]; exact ⟨rfl, rfl⟩
  obtain ⟨hP1, hK1, hD1⟩ := hB
  rw [ht] at hP1
  obtain ⟨hP, hD⟩ := va_join (wr := [(aT_shortest, .inl (cyI, 5, .inl zT_shortest)), (aT_longestTimes, .inl (cyI, 5, .inl zT_longestTimes))]) (w1 := [(aT, .inr (5, [.int zT.1, .ref aT_signs, .ref aT_members, .ref aT_shortest, .ref aT_longestTimes, .int zT.2])), (aT_signs, .inl (cyI, 60, .inl zT_signs)), (aT_members, .inl (cyI, 5, .inl v1.2))]) hP hD [0, 1, 2] [3, 4] rfl rfl (by decide) (by decide) hk1 hFc hP1 hD1
  generalize H1 = H at hP hS ⊢
  have hP := hP.sub (ws' := [(aT, .inr (5, [.int zT.1, .ref aT_signs, .ref aT_members, .ref aT_shortest, .ref aT_longestTimes, .int zT.2])), (aT_signs, .inl (cyI, 60, .inl zT_signs)), (aT_members, .inl (cyI, 5, .inl v1.2)), (aT_shortest, .inl (cyI, 5, .inl zT_shortest)), (aT_longestTimes, .inl (cyI, 5, .inl zT_longestTimes))]) [2, 3, 4, 0, 1] rfl
  have hD := hD.sub (ws' := [(aT, .inr (5, [.int zT.1, .ref aT_signs, .ref aT_members, .ref aT_shortest, .ref aT_longestTimes, .int zT.2])), (aT_signs, .inl (cyI, 60, .inl zT_signs)), (aT_members, .inl (cyI, 5, .inl v1.2)), (aT_shortest, .inl (cyI, 5, .inl zT_shortest)), (aT_longestTimes, .inl (cyI, 5, .inl zT_longestTimes))]) [2, 3, 4, 0, 1] (by decide) rfl
  clear hPc hDc hFc hP1 hK1 hD1
  refine lv_istore (lv' := [(4, .int v1.1), (0, .ref aT), (1, .int p1), (2, .int p2), (3, .int p3)]) hx hb dX3_parsePhase_7 hl (by decide) rfl (fun ls hl => ?_)
  refine lv_iload hx hb dX3_parsePhase_9 (lv_at hl 0 rfl) ?_
  refine lv_if_ge (tgt := 17) hx hb dX3_parsePhase_11 (by decide) (fun c_2 => ?_) (fun c_2 => ?_)
  · have h := gk_mt c_2 h
    refine lv_aload_n hx hb dX3_parsePhase_17 rfl (lv_at hl 1 rfl) ?_
    refine lv_iload hx hb dX3_parsePhase_18 (lv_at hl 0 rfl) ?_
    refine lv_iconst (v := 1) hx hb dX3_parsePhase_20 (by decide) ?_
    refine lv_bipush (v := 15) hx hb dX3_parsePhase_21 (by decide) ?_
    obtain ⟨v3, hc_3, h⟩ := gk_bd_s h
    have hPc := hP.sub (ws' := [(aT, .inr (5, [.int zT.1, .ref aT_signs, .ref aT_members, .ref aT_shortest, .ref aT_longestTimes, .int zT.2])), (aT_signs, .inl (cyI, 60, .inl zT_signs))]) [0, 1] rfl
    have hDc := hD.sub (ws' := [(aT, .inr (5, [.int zT.1, .ref aT_signs, .ref aT_members, .ref aT_shortest, .ref aT_longestTimes, .int zT.2])), (aT_signs, .inl (cyI, 60, .inl zT_signs))]) [0, 1] (by decide) rfl
    have hFc := va_free (wc := [(aT, .inr (5, [.int zT.1, .ref aT_signs, .ref aT_members, .ref aT_shortest, .ref aT_longestTimes, .int zT.2])), (aT_signs, .inl (cyI, 60, .inl zT_signs))]) hD hS hA [0, 1] rfl
    refine va_calli (va_runV (As := [.int v1.1, .int 1, .int 15]) (rest := []) ⟨hx, hb, hml, hown, hts⟩ (c_X3_parseNumber l dC dI cyI cyJ cyZ F aT aT_signs aT_members aT_shortest aT_longestTimes H.size v1.1 1 15 zT zT_signs v3 hc_3) (cwV 3 hts gX3_parsePhase_X3_parseNumber rfl rfl rfl (by decide +kernel) ⟨Nat.le_of_ble_eq_true rfl, Nat.le_of_ble_eq_true rfl⟩) ⟨fun a U g mk q => by obtain ⟨q0, q1, qP, qK, qD⟩ := q; exact ⟨q0, q1, qP, va_K.moved (u := U) (U := U.calling g mk a) (Vm.Alike.refl U.vm) qK, qD⟩, va_recv hK hP (ci := 5) (q0 := 0) rfl rfl, fun U hU hW => ⟨rfl, by rw [hU], by rw [hU]; exact hPc, va_K.moved hW.alike hK, hDc.weaken (fun _ _ _ _ => trivial)⟩⟩ rfl rfl hl.1 rfl (lv_room (Nat.le_of_ble_eq_true rfl)) dX3_parsePhase_23 ⟨Nat.zero_le _, Nat.zero_le _⟩) hS (fun q _ h => hFc q h) hFc (fun r_3 u_3 t_3 H1 locs ht hvm hw hB hz1 hk1 hS => ?_)
    obtain ⟨rfl, rfl⟩ : r_3 = v3.1 ∧ u_3 = v3.2 := by rw [← hw]; exact ⟨rfl, rfl⟩
    obtain ⟨hP1, hK1, hD1⟩ := hB
    rw [ht] at hP1
    obtain ⟨hP, hD⟩ := va_join (wr := [(aT_members, .inl (cyI, 5, .inl v1.2)), (aT_shortest, .inl (cyI, 5, .inl zT_shortest)), (aT_longestTimes, .inl (cyI, 5, .inl zT_longestTimes))]) (w1 := [(aT, .inr (5, [.int v3.2.1, .ref aT_signs, .ref aT_members, .ref aT_shortest, .ref aT_longestTimes, .int v3.2.2])), (aT_signs, .inl (cyI, 60, .inl zT_signs))]) hP hD [0, 1] [2, 3, 4] rfl rfl (by decide) (by decide) hk1 hFc hP1 hD1
    generalize H1 = H at hP hS ⊢
    have hP := hP.sub (ws' := [(aT, .inr (5, [.int v3.2.1, .ref aT_signs, .ref aT_members, .ref aT_shortest, .ref aT_longestTimes, .int v3.2.2])), (aT_signs, .inl (cyI, 60, .inl zT_signs)), (aT_members, .inl (cyI, 5, .inl v1.2)), (aT_shortest, .inl (cyI, 5, .inl zT_shortest)), (aT_longestTimes, .inl (cyI, 5, .inl zT_longestTimes))]) [3, 4, 0, 1, 2] rfl
    have hD := hD.sub (ws' := [(aT, .inr (5, [.int v3.2.1, .ref aT_signs, .ref aT_members, .ref aT_shortest, .ref aT_longestTimes, .int v3.2.2])), (aT_signs, .inl (cyI, 60, .inl zT_signs)), (aT_members, .inl (cyI, 5, .inl v1.2)), (aT_shortest, .inl (cyI, 5, .inl zT_shortest)), (aT_longestTimes, .inl (cyI, 5, .inl zT_longestTimes))]) [3, 4, 0, 1, 2] (by decide) rfl
    clear hPc hDc hFc hP1 hK1 hD1
    refine lv_istore (lv' := [(4, .int v3.1), (0, .ref aT), (1, .int p1), (2, .int p2), (3, .int p3)]) hx hb dX3_parsePhase_26 hl (by decide) rfl (fun ls hl => ?_)
    refine lv_iload hx hb dX3_parsePhase_28 (lv_at hl 0 rfl) ?_
    refine lv_if_ge (tgt := 36) hx hb dX3_parsePhase_30 (by decide) (fun c_4 => ?_) (fun c_4 => ?_)
    · have h := gk_mt c_4 h
      refine lv_aload_n hx hb dX3_parsePhase_36 rfl (lv_at hl 1 rfl) ?_
      refine va_get (D := (dC, dI)) (ci := 5) (v := .ref aT_shortest) (C := RX3) (T := TX3) (N := 6) hx hb hts hinX3 hown hK hP 0 rfl rfl 3 (by decide) hf_18 (fun _ h9 => h9) rfl dX3_parsePhase_37 ?_
      refine lv_iload_n hx hb dX3_parsePhase_40 rfl (lv_at hl 2 rfl) ?_
      refine lv_aload_n hx hb dX3_parsePhase_41 rfl (lv_at hl 1 rfl) ?_
      refine va_get (D := (dC, dI)) (ci := 5) (v := .int v3.2.2) (C := RX3) (T := TX3) (N := 6) hx hb hts hinX3 hown hK hP 0 rfl rfl 5 (by decide) hf_38 (fun _ h9 => h9) rfl dX3_parsePhase_42 ?_
      obtain ⟨c_5, h⟩ := gk_ck_s h
      refine va_iast hx hb hK hP hD hS 3 0 rfl rfl c_5 dX3_parsePhase_45 (fun H locs hP hD hS => ?_)
      have hP : va_P (dC, dI) vwCl [(aT, .inr (5, [.int v3.2.1, .ref aT_signs, .ref aT_members, .ref aT_shortest, .ref aT_longestTimes, .int v3.2.2])), (aT_signs, .inl (cyI, 60, .inl zT_signs)), (aT_members, .inl (cyI, 5, .inl v1.2)), (aT_shortest, .inl (cyI, 5, .inl (upd zT_shortest p1.toNatClampNeg v3.2.2))), (aT_longestTimes, .inl (cyI, 5, .inl zT_longestTimes))] H := hP
      have hD : va_D A [(aT, .inr (5, [.int v3.2.1, .ref aT_signs, .ref aT_members, .ref aT_shortest, .ref aT_longestTimes, .int v3.2.2])), (aT_signs, .inl (cyI, 60, .inl zT_signs)), (aT_members, .inl (cyI, 5, .inl v1.2)), (aT_shortest, .inl (cyI, 5, .inl (upd zT_shortest p1.toNatClampNeg v3.2.2))), (aT_longestTimes, .inl (cyI, 5, .inl zT_longestTimes))] := hD
      refine lv_aload_n hx hb dX3_parsePhase_46 rfl (lv_at hl 1 rfl) ?_
      refine lv_iload hx hb dX3_parsePhase_47 (lv_at hl 0 rfl) ?_
      obtain ⟨v6, hc_6, h⟩ := gk_bd_s h
      have hPc := hP.sub (ws' := [(aT, .inr (5, [.int v3.2.1, .ref aT_signs, .ref aT_members, .ref aT_shortest, .ref aT_longestTimes, .int v3.2.2])), (aT_signs, .inl (cyI, 60, .inl zT_signs))]) [0, 1] rfl
      have hDc := hD.sub (ws' := [(aT, .inr (5, [.int v3.2.1, .ref aT_signs, .ref aT_members, .ref aT_shortest, .ref aT_longestTimes, .int v3.2.2])), (aT_signs, .inl (cyI, 60, .inl zT_signs))]) [0, 1] (by decide) rfl
      have hFc := va_free (wc := [(aT, .inr (5, [.int v3.2.1, .ref aT_signs, .ref aT_members, .ref aT_shortest, .ref aT_longestTimes, .int v3.2.2])), (aT_signs, .inl (cyI, 60, .inl zT_signs))]) hD hS hA [0, 1] rfl
      refine va_calli (va_runV (As := [.int v3.1]) (rest := []) ⟨hx, hb, hml, hown, hts⟩ (c_X3_signAt l dC dI cyI cyJ cyZ F aT aT_signs aT_members aT_shortest aT_longestTimes H.size v3.1 v3.2 zT_signs v6 hc_6) (cwV 1 hts gX3_parsePhase_X3_signAt rfl rfl rfl (by decide +kernel) ⟨Nat.le_of_ble_eq_true rfl, Nat.le_of_ble_eq_true rfl⟩) ⟨fun a U g mk q => by obtain ⟨q0, q1, qP, qK, qD⟩ := q; exact ⟨q0, q1, qP, va_K.moved (u := U) (U := U.calling g mk a) (Vm.Alike.refl U.vm) qK, qD⟩, va_recv hK hP (ci := 5) (q0 := 0) rfl rfl, fun U hU hW => ⟨rfl, by rw [hU], by rw [hU]; exact hPc, va_K.moved hW.alike hK, hDc.weaken (fun _ _ _ _ => trivial)⟩⟩ rfl rfl hl.1 rfl (lv_room (Nat.le_of_ble_eq_true rfl)) dX3_parsePhase_49 ⟨Nat.zero_le _, Nat.zero_le _⟩) hS (fun q _ h => hFc q h) hFc (fun r_6 u_6 t_6 H1 locs ht hvm hw hB hz1 hk1 hS => ?_)
      have hw := hw.symm; subst hw
      obtain ⟨hP1, hK1, hD1⟩ := hB
      rw [ht] at hP1
      obtain ⟨hP, hD⟩ := va_join (wr := [(aT_members, .inl (cyI, 5, .inl v1.2)), (aT_shortest, .inl (cyI, 5, .inl (upd zT_shortest p1.toNatClampNeg v3.2.2))), (aT_longestTimes, .inl (cyI, 5, .inl zT_longestTimes))]) (w1 := [(aT, .inr (5, [.int v3.2.1, .ref aT_signs, .ref aT_members, .ref aT_shortest, .ref aT_longestTimes, .int v3.2.2])), (aT_signs, .inl (cyI, 60, .inl zT_signs))]) hP hD [0, 1] [2, 3, 4] rfl rfl (by decide) (by decide) hk1 hFc hP1 hD1
      generalize H1 = H at hP hS ⊢
      have hP := hP.sub (ws' := [(aT, .inr (5, [.int v3.2.1, .ref aT_signs, .ref aT_members, .ref aT_shortest, .ref aT_longestTimes, .int v3.2.2])), (aT_signs, .inl (cyI, 60, .inl zT_signs)), (aT_members, .inl (cyI, 5, .inl v1.2)), (aT_shortest, .inl (cyI, 5, .inl (upd zT_shortest p1.toNatClampNeg v3.2.2))), (aT_longestTimes, .inl (cyI, 5, .inl zT_longestTimes))]) [3, 4, 0, 1, 2] rfl
      have hD := hD.sub (ws' := [(aT, .inr (5, [.int v3.2.1, .ref aT_signs, .ref aT_members, .ref aT_shortest, .ref aT_longestTimes, .int v3.2.2])), (aT_signs, .inl (cyI, 60, .inl zT_signs)), (aT_members, .inl (cyI, 5, .inl v1.2)), (aT_shortest, .inl (cyI, 5, .inl (upd zT_shortest p1.toNatClampNeg v3.2.2))), (aT_longestTimes, .inl (cyI, 5, .inl zT_longestTimes))]) [3, 4, 0, 1, 2] (by decide) rfl
      clear hPc hDc hFc hP1 hK1 hD1
      refine lv_bipush (v := 45) hx hb dX3_parsePhase_52 (by decide) ?_
      refine lv_icmp_eq (tgt := 62) hx hb dX3_parsePhase_54 (by decide) (fun c_7 => ?_) (fun c_7 => ?_)
      · have h := gk_mt c_7 h
        refine lv_aload_n hx hb dX3_parsePhase_62 rfl (lv_at hl 1 rfl) ?_
        refine lv_iload hx hb dX3_parsePhase_63 (lv_at hl 0 rfl) ?_
        refine lv_iconst (v := 1) hx hb dX3_parsePhase_65 (by decide) ?_
        refine lv_iadd hx hb dX3_parsePhase_66 ?_
        refine lv_aload_n hx hb dX3_parsePhase_67 rfl (lv_at hl 1 rfl) ?_
        refine va_get (D := (dC, dI)) (ci := 5) (v := .int v3.2.2) (C := RX3) (T := TX3) (N := 6) hx hb hts hinX3 hown hK hP 0 rfl rfl 5 (by decide) hf_38 (fun _ h9 => h9) rfl dX3_parsePhase_68 ?_
        refine lv_bipush (v := 31) hx hb dX3_parsePhase_71 (by decide) ?_
        obtain ⟨v8, hc_8, h⟩ := gk_bd_s h
        have hPc := hP.sub (ws' := [(aT, .inr (5, [.int v3.2.1, .ref aT_signs, .ref aT_members, .ref aT_shortest, .ref aT_longestTimes, .int v3.2.2])), (aT_signs, .inl (cyI, 60, .inl zT_signs))]) [0, 1] rfl
        have hDc := hD.sub (ws' := [(aT, .inr (5, [.int v3.2.1, .ref aT_signs, .ref aT_members, .ref aT_shortest, .ref aT_longestTimes, .int v3.2.2])), (aT_signs, .inl (cyI, 60, .inl zT_signs))]) [0, 1] (by decide) rfl
        have hFc := va_free (wc := [(aT, .inr (5, [.int v3.2.1, .ref aT_signs, .ref aT_members, .ref aT_shortest, .ref aT_longestTimes, .int v3.2.2])), (aT_signs, .inl (cyI, 60, .inl zT_signs))]) hD hS hA [0, 1] rfl
        refine va_calli (va_runV (As := [.int (v3.1 + 1), .int v3.2.2, .int 31]) (rest := []) ⟨hx, hb, hml, hown, hts⟩ (c_X3_parseNumber l dC dI cyI cyJ cyZ F aT aT_signs aT_members aT_shortest aT_longestTimes H.size (v3.1 + 1) v3.2.2 31 v3.2 zT_signs v8 hc_8) (cwV 3 hts gX3_parsePhase_X3_parseNumber rfl rfl rfl (by decide +kernel) ⟨Nat.le_of_ble_eq_true rfl, Nat.le_of_ble_eq_true rfl⟩) ⟨fun a U g mk q => by obtain ⟨q0, q1, qP, qK, qD⟩ := q; exact ⟨q0, q1, qP, va_K.moved (u := U) (U := U.calling g mk a) (Vm.Alike.refl U.vm) qK, qD⟩, va_recv hK hP (ci := 5) (q0 := 0) rfl rfl, fun U hU hW => ⟨rfl, by rw [hU], by rw [hU]; exact hPc, va_K.moved hW.alike hK, hDc.weaken (fun _ _ _ _ => trivial)⟩⟩ rfl rfl hl.1 rfl (lv_room (Nat.le_of_ble_eq_true rfl)) dX3_parsePhase_73 ⟨Nat.zero_le _, Nat.zero_le _⟩) hS (fun q _ h => hFc q h) hFc (fun r_8 u_8 t_8 H1 locs ht hvm hw hB hz1 hk1 hS => ?_)
        obtain ⟨rfl, rfl⟩ : r_8 = v8.1 ∧ u_8 = v8.2 := by rw [← hw]; exact ⟨rfl, rfl⟩
        obtain ⟨hP1, hK1, hD1⟩ := hB
        rw [ht] at hP1
        obtain ⟨hP, hD⟩ := va_join (wr := [(aT_members, .inl (cyI, 5, .inl v1.2)), (aT_shortest, .inl (cyI, 5, .inl (upd zT_shortest p1.toNatClampNeg v3.2.2))), (aT_longestTimes, .inl (cyI, 5, .inl zT_longestTimes))]) (w1 := [(aT, .inr (5, [.int v8.2.1, .ref aT_signs, .ref aT_members, .ref aT_shortest, .ref aT_longestTimes, .int v8.2.2])), (aT_signs, .inl (cyI, 60, .inl zT_signs))]) hP hD [0, 1] [2, 3, 4] rfl rfl (by decide) (by decide) hk1 hFc hP1 hD1
        generalize H1 = H at hP hS ⊢
        have hP := hP.sub (ws' := [(aT, .inr (5, [.int v8.2.1, .ref aT_signs, .ref aT_members, .ref aT_shortest, .ref aT_longestTimes, .int v8.2.2])), (aT_signs, .inl (cyI, 60, .inl zT_signs)), (aT_members, .inl (cyI, 5, .inl v1.2)), (aT_shortest, .inl (cyI, 5, .inl (upd zT_shortest p1.toNatClampNeg v3.2.2))), (aT_longestTimes, .inl (cyI, 5, .inl zT_longestTimes))]) [3, 4, 0, 1, 2] rfl
        have hD := hD.sub (ws' := [(aT, .inr (5, [.int v8.2.1, .ref aT_signs, .ref aT_members, .ref aT_shortest, .ref aT_longestTimes, .int v8.2.2])), (aT_signs, .inl (cyI, 60, .inl zT_signs)), (aT_members, .inl (cyI, 5, .inl v1.2)), (aT_shortest, .inl (cyI, 5, .inl (upd zT_shortest p1.toNatClampNeg v3.2.2))), (aT_longestTimes, .inl (cyI, 5, .inl zT_longestTimes))]) [3, 4, 0, 1, 2] (by decide) rfl
        clear hPc hDc hFc hP1 hK1 hD1
        refine lv_istore (lv' := [(4, .int v8.1), (0, .ref aT), (1, .int p1), (2, .int p2), (3, .int p3)]) hx hb dX3_parsePhase_76 hl (by decide) rfl (fun ls hl => ?_)
        refine lv_aload_n hx hb dX3_parsePhase_78 rfl (lv_at hl 1 rfl) ?_
        refine va_get (D := (dC, dI)) (ci := 5) (v := .ref aT_longestTimes) (C := RX3) (T := TX3) (N := 6) hx hb hts hinX3 hown hK hP 0 rfl rfl 4 (by decide) hf_21 (fun _ h9 => h9) rfl dX3_parsePhase_79 ?_
        refine lv_iload_n hx hb dX3_parsePhase_82 rfl (lv_at hl 2 rfl) ?_
        refine lv_aload_n hx hb dX3_parsePhase_83 rfl (lv_at hl 1 rfl) ?_
        refine va_get (D := (dC, dI)) (ci := 5) (v := .int v8.2.2) (C := RX3) (T := TX3) (N := 6) hx hb hts hinX3 hown hK hP 0 rfl rfl 5 (by decide) hf_38 (fun _ h9 => h9) rfl dX3_parsePhase_84 ?_
        obtain ⟨c_9, h⟩ := gk_ck_s h
        refine va_iast hx hb hK hP hD hS 4 0 rfl rfl c_9 dX3_parsePhase_87 (fun H locs hP hD hS => ?_)
        have hP : va_P (dC, dI) vwCl [(aT, .inr (5, [.int v8.2.1, .ref aT_signs, .ref aT_members, .ref aT_shortest, .ref aT_longestTimes, .int v8.2.2])), (aT_signs, .inl (cyI, 60, .inl zT_signs)), (aT_members, .inl (cyI, 5, .inl v1.2)), (aT_shortest, .inl (cyI, 5, .inl (upd zT_shortest p1.toNatClampNeg v3.2.2))), (aT_longestTimes, .inl (cyI, 5, .inl (upd zT_longestTimes p1.toNatClampNeg v8.2.2)))] H := hP
        have hD : va_D A [(aT, .inr (5, [.int v8.2.1, .ref aT_signs, .ref aT_members, .ref aT_shortest, .ref aT_longestTimes, .int v8.2.2])), (aT_signs, .inl (cyI, 60, .inl zT_signs)), (aT_members, .inl (cyI, 5, .inl v1.2)), (aT_shortest, .inl (cyI, 5, .inl (upd zT_shortest p1.toNatClampNeg v3.2.2))), (aT_longestTimes, .inl (cyI, 5, .inl (upd zT_longestTimes p1.toNatClampNeg v8.2.2)))] := hD
        refine lv_iload hx hb dX3_parsePhase_88 (lv_at hl 0 rfl) ?_
        exact W.iret hx hb hr (hret _ _ v8.1 ((v8.2, v1.2, upd zT_shortest p1.toNatClampNeg v3.2.2, upd zT_longestTimes p1.toNatClampNeg v8.2.2)) (Option.some.inj h) hP hD hS) hS.2.2 dX3_parsePhase_90
      · have h := gk_mf c_7 h
        refine lv_iconst (v := (-1)) hx hb dX3_parsePhase_57 (by decide) ?_
        refine lv_iload hx hb dX3_parsePhase_58 (lv_at hl 0 rfl) ?_
        refine lv_isub hx hb dX3_parsePhase_60 ?_
        exact W.iret hx hb hr (hret _ _ (((-1)) - v3.1) ((v3.2, v1.2, upd zT_shortest p1.toNatClampNeg v3.2.2, zT_longestTimes)) (Option.some.inj h) hP hD hS) hS.2.2 dX3_parsePhase_61
    · have h := gk_mf c_4 h
      refine lv_iload hx hb dX3_parsePhase_33 (lv_at hl 0 rfl) ?_
      exact W.iret hx hb hr (hret _ _ v3.1 ((v3.2, v1.2, zT_shortest, zT_longestTimes)) (Option.some.inj h) hP hD hS) hS.2.2 dX3_parsePhase_35
  · have h := gk_mf c_2 h
    refine lv_iload hx hb dX3_parsePhase_14 (lv_at hl 0 rfl) ?_
    exact W.iret hx hb hr (hret _ _ v1.1 ((zT, v1.2, zT_shortest, zT_longestTimes)) (Option.some.inj h) hP hD hS) hS.2.2 dX3_parsePhase_16
/-! X3_parse -/
noncomputable def m_X3_parse_L4 (F : Nat) (zT_signs : Nat → Int32)  (n : Nat) : (Int32) → (Int32) → (Int32) → (Int32 × Int32) → (Nat → Int32) → (Nat → Int32) → (Nat → Int32) → Option (Int32 × ((Int32 × Int32) × (Nat → Int32) × (Nat → Int32) × (Nat → Int32))) := Nat.rec (motive := fun _ => (Int32) → (Int32) → (Int32) → (Int32 × Int32) → (Nat → Int32) → (Nat → Int32) → (Nat → Int32) → Option (Int32 × ((Int32 × Int32) × (Nat → Int32) × (Nat → Int32) × (Nat → Int32)))) (fun _ _ _ _ _ _ _ => none) (fun _ ih => fun x1 x2 x3 zT zT_members zT_shortest zT_longestTimes => (if 5 ≤ x3 then (some ((((-1)) - x2, (zT, zT_members, zT_shortest, zT_longestTimes)))) else (gk_bd (m_X3_parsePhase F x3 x2 x1 zT zT_signs zT_members zT_shortest zT_longestTimes) (fun v2 => (if 0 ≤ v2.1 then (if v2.1 < v2.2.1.1 then (gk_ck v2.1 60 ((if (zT_signs v2.1.toNatClampNeg) = 59 then (if x3 = 4 then (some ((((-1)) - v2.1, (v2.2.1, v2.2.2.1, v2.2.2.2.1, v2.2.2.2.2)))) else ih x1 (v2.1 + 1) (x3 + 1) v2.2.1 v2.2.2.1 v2.2.2.2.1 v2.2.2.2.2) else (some ((((-1)) - v2.1, (v2.2.1, v2.2.2.1, v2.2.2.2.1, v2.2.2.2.2))))))) else (some ((x3 + 1, (v2.2.1, v2.2.2.1, v2.2.2.2.1, v2.2.2.2.2))))) else (some ((v2.1, (v2.2.1, v2.2.2.1, v2.2.2.2.1, v2.2.2.2.2))))))))) n
noncomputable def m_X3_parse (F : Nat) (p1 : Int32) (zT : Int32 × Int32) (zT_signs : Nat → Int32) (zT_members : Nat → Int32) (zT_shortest : Nat → Int32) (zT_longestTimes : Nat → Int32) : Option (Int32 × ((Int32 × Int32) × (Nat → Int32) × (Nat → Int32) × (Nat → Int32))) := m_X3_parse_L4 F zT_signs F p1 0 0 zT zT_members zT_shortest zT_longestTimes
abbrev rm_X3_parse : Room := { frames := 3, cells := 0, slots := 0, locals := 72 }
set_option maxHeartbeats 40000000 in
set_option maxRecDepth 100000 in
theorem c_X3_parse (l : Launch) (dC : Nat → ClassId) (dI : Nat → Nat → Nat) (cyI cyJ cyZ : ClassId) (F : Nat) (aT aT_signs aT_members aT_shortest aT_longestTimes : Nat) (sz : Nat) (p1 : Int32) (zT : Int32 × Int32) (zT_signs : Nat → Int32) (zT_members : Nat → Int32) (zT_shortest : Nat → Int32) (zT_longestTimes : Nat → Int32) (r0 : Int32 × ((Int32 × Int32) × (Nat → Int32) × (Nat → Int32) × (Nat → Int32))) (h : m_X3_parse F p1 zT zT_signs zT_members zT_shortest zT_longestTimes = some r0) : Met l yX3_parse wsX3_parse rm_X3_parse (va_Pc [.ref aT, .int p1] (fun U => U.heap.size = sz ∧ va_P (dC, dI) vwCl [(aT, .inr (5, [.int zT.1, .ref aT_signs, .ref aT_members, .ref aT_shortest, .ref aT_longestTimes, .int zT.2])), (aT_signs, .inl (cyI, 60, .inl zT_signs)), (aT_members, .inl (cyI, 5, .inl zT_members)), (aT_shortest, .inl (cyI, 5, .inl zT_shortest)), (aT_longestTimes, .inl (cyI, 5, .inl zT_longestTimes))] U.heap ∧ va_K (dC, dI) vwCl [(cyI, .int), (cyJ, .long), (cyZ, .boolean)] U ∧ va_D (fun _ => True) [(aT, .inr (5, [.int zT.1, .ref aT_signs, .ref aT_members, .ref aT_shortest, .ref aT_longestTimes, .int zT.2])), (aT_signs, .inl (cyI, 60, .inl zT_signs)), (aT_members, .inl (cyI, 5, .inl zT_members)), (aT_shortest, .inl (cyI, 5, .inl zT_shortest)), (aT_longestTimes, .inl (cyI, 5, .inl zT_longestTimes))])) (va_Qi (fun (r : Int32) (u : (Int32 × Int32) × (Nat → Int32) × (Nat → Int32) × (Nat → Int32)) => (r, u) = r0) (fun u t => va_P (dC, dI) vwCl [(aT, .inr (5, [.int u.1.1, .ref aT_signs, .ref aT_members, .ref aT_shortest, .ref aT_longestTimes, .int u.1.2])), (aT_signs, .inl (cyI, 60, .inl zT_signs)), (aT_members, .inl (cyI, 5, .inl u.2.1)), (aT_shortest, .inl (cyI, 5, .inl u.2.2.1)), (aT_longestTimes, .inl (cyI, 5, .inl u.2.2.2))] t.heap ∧ va_K (dC, dI) vwCl [(cyI, .int), (cyJ, .long), (cyZ, .boolean)] t ∧ va_D (va_A [(aT, .inr (5, [.int zT.1, .ref aT_signs, .ref aT_members, .ref aT_shortest, .ref aT_longestTimes, .int zT.2])), (aT_signs, .inl (cyI, 60, .inl zT_signs)), (aT_members, .inl (cyI, 5, .inl zT_members)), (aT_shortest, .inl (cyI, 5, .inl zT_shortest)), (aT_longestTimes, .inl (cyI, 5, .inl zT_longestTimes))] sz) [(aT, .inr (5, [.int u.1.1, .ref aT_signs, .ref aT_members, .ref aT_shortest, .ref aT_longestTimes, .int u.1.2])), (aT_signs, .inl (cyI, 60, .inl zT_signs)), (aT_members, .inl (cyI, 5, .inl u.2.1)), (aT_shortest, .inl (cyI, 5, .inl u.2.2.1)), (aT_longestTimes, .inl (cyI, 5, .inl u.2.2.2))]) (va_A [(aT, .inr (5, [.int zT.1, .ref aT_signs, .ref aT_members, .ref aT_shortest, .ref aT_longestTimes, .int zT.2])), (aT_signs, .inl (cyI, 60, .inl zT_signs)), (aT_members, .inl (cyI, 5, .inl zT_members)), (aT_shortest, .inl (cyI, 5, .inl zT_shortest)), (aT_longestTimes, .inl (cyI, 5, .inl zT_longestTimes))] sz)) 0 0 (va_A [(aT, .inr (5, [.int zT.1, .ref aT_signs, .ref aT_members, .ref aT_shortest, .ref aT_longestTimes, .int zT.2])), (aT_signs, .inl (cyI, 60, .inl zT_signs)), (aT_members, .inl (cyI, 5, .inl zT_members)), (aT_shortest, .inl (cyI, 5, .inl zT_shortest)), (aT_longestTimes, .inl (cyI, 5, .inl zT_longestTimes))] sz) := by
  refine Met.ofW (cc := cX3_parse) (maxL := 4) (ret := (some .int)) (by decide) rfl ?_
  intro p e s m args below meth c s₁ B hml hv
  obtain ⟨hargs, hsz, hP, hK, hD0⟩ := hv
  have hx := B.exec
  have hb := B.bytes
  have hr := B.returns
  have hts := atoms_spec (ws := wsX3_parse) B.pre
  have hown : s.vm.findClass RX3 = some m.cls := findClass_of_methodNamed B.named
  have hlocks := B.notSynchronized
  have hinX3 : ∀ w ∈ u_ws RX3 TX3 6, w ∈ wsX3_parse := by decide +kernel
  have hf_24 := hts (.fieldLink RX3 24 "SignalProofs$PlanText" "length" "I") (by decide +kernel)
  have hf_9 := hts (.fieldLink RX3 9 "SignalProofs$PlanText" "signs" "[I") (by decide +kernel)
  subst hsz
  have hD := hD0.self (sz := s.heap.size)
  generalize hAe : va_A [(aT, .inr (5, [.int zT.1, .ref aT_signs, .ref aT_members, .ref aT_shortest, .ref aT_longestTimes, .int zT.2])), (aT_signs, .inl (cyI, 60, .inl zT_signs)), (aT_members, .inl (cyI, 5, .inl zT_members)), (aT_shortest, .inl (cyI, 5, .inl zT_shortest)), (aT_longestTimes, .inl (cyI, 5, .inl zT_longestTimes))] s.heap.size = A at hD ⊢
  have hA : ∀ q : Nat, s.heap.size ≤ q → A q := fun q h => by rw [← hAe]; exact Or.inr h
  have hS : va_S A s.heap s.heap [] := va_S.rf
  have hret : ∀ (H : Heap) (locs : List Loc) (r : Int32) (u : (Int32 × Int32) × (Nat → Int32) × (Nat → Int32) × (Nat → Int32)), (r, u) = r0 → va_P (dC, dI) vwCl [(aT, .inr (5, [.int u.1.1, .ref aT_signs, .ref aT_members, .ref aT_shortest, .ref aT_longestTimes, .int u.1.2])), (aT_signs, .inl (cyI, 60, .inl zT_signs)), (aT_members, .inl (cyI, 5, .inl u.2.1)), (aT_shortest, .inl (cyI, 5, .inl u.2.2.1)), (aT_longestTimes, .inl (cyI, 5, .inl u.2.2.2))] H → va_D A [(aT, .inr (5, [.int u.1.1, .ref aT_signs, .ref aT_members, .ref aT_shortest, .ref aT_longestTimes, .int u.1.2])), (aT_signs, .inl (cyI, 60, .inl zT_signs)), (aT_members, .inl (cyI, 5, .inl u.2.1)), (aT_shortest, .inl (cyI, 5, .inl u.2.2.1)), (aT_longestTimes, .inl (cyI, 5, .inl u.2.2.2))] → va_S A s.heap H locs → ∀ t : State, t.heap = H → s.WarmedH t.vm → (va_Qi (fun (r : Int32) (u : (Int32 × Int32) × (Nat → Int32) × (Nat → Int32) × (Nat → Int32)) => (r, u) = r0) (fun u t => va_P (dC, dI) vwCl [(aT, .inr (5, [.int u.1.1, .ref aT_signs, .ref aT_members, .ref aT_shortest, .ref aT_longestTimes, .int u.1.2])), (aT_signs, .inl (cyI, 60, .inl zT_signs)), (aT_members, .inl (cyI, 5, .inl u.2.1)), (aT_shortest, .inl (cyI, 5, .inl u.2.2.1)), (aT_longestTimes, .inl (cyI, 5, .inl u.2.2.2))] t.heap ∧ va_K (dC, dI) vwCl [(cyI, .int), (cyJ, .long), (cyZ, .boolean)] t ∧ va_D A [(aT, .inr (5, [.int u.1.1, .ref aT_signs, .ref aT_members, .ref aT_shortest, .ref aT_longestTimes, .int u.1.2])), (aT_signs, .inl (cyI, 60, .inl zT_signs)), (aT_members, .inl (cyI, 5, .inl u.2.1)), (aT_shortest, .inl (cyI, 5, .inl u.2.2.1)), (aT_longestTimes, .inl (cyI, 5, .inl u.2.2.2))]) A) args s (.returned (some (.int r))) t := fun H locs r u hu hP hD hS t ht hW => ⟨⟨r, u, rfl, hu, by rw [ht]; exact hP, va_K.moved hW.alike hK, hD⟩, hS.F ht⟩
  generalize hQc : va_Qi (fun (r : Int32) (u : (Int32 × Int32) × (Nat → Int32) × (Nat → Int32) × (Nat → Int32)) => (r, u) = r0) (fun u t => va_P (dC, dI) vwCl [(aT, .inr (5, [.int u.1.1, .ref aT_signs, .ref aT_members, .ref aT_shortest, .ref aT_longestTimes, .int u.1.2])), (aT_signs, .inl (cyI, 60, .inl zT_signs)), (aT_members, .inl (cyI, 5, .inl u.2.1)), (aT_shortest, .inl (cyI, 5, .inl u.2.2.1)), (aT_longestTimes, .inl (cyI, 5, .inl u.2.2.2))] t.heap ∧ va_K (dC, dI) vwCl [(cyI, .int), (cyJ, .long), (cyZ, .boolean)] t ∧ va_D A [(aT, .inr (5, [.int u.1.1, .ref aT_signs, .ref aT_members, .ref aT_shortest, .ref aT_longestTimes, .int u.1.2])), (aT_signs, .inl (cyI, 60, .inl zT_signs)), (aT_members, .inl (cyI, 5, .inl u.2.1)), (aT_shortest, .inl (cyI, 5, .inl u.2.2.1)), (aT_longestTimes, .inl (cyI, 5, .inl u.2.2.2))]) A = Qc at hret ⊢
  have hl := lv_entry ([.ref aT, .int p1]) (n := 4) (Nat.le_of_ble_eq_true rfl)
  rw [hargs, lg_entry_eq, ← hargs]
  generalize (lg_sl ([.ref aT, .int p1]) ++ List.replicate (4 - (lg_sl ([.ref aT, .int p1])).length) Slot.unset).toArray = ls at hl ⊢
  have hl : lv_has ls 4 [(0, .ref aT), (1, .int p1)] := hl
  have w_L4 : ∀  (n : Nat), ∀ (x1 : Int32) (x2 : Int32) (x3 : Int32) (zT : Int32 × Int32) (zT_members : Nat → Int32) (zT_shortest : Nat → Int32) (zT_longestTimes : Nat → Int32), (m_X3_parse_L4 F zT_signs n) x1 x2 x3 zT zT_members zT_shortest zT_longestTimes = some r0 → ∀ (H : Heap) (locs : List Loc) (ls : Array Slot), va_P (dC, dI) vwCl [(aT, .inr (5, [.int zT.1, .ref aT_signs, .ref aT_members, .ref aT_shortest, .ref aT_longestTimes, .int zT.2])), (aT_signs, .inl (cyI, 60, .inl zT_signs)), (aT_members, .inl (cyI, 5, .inl zT_members)), (aT_shortest, .inl (cyI, 5, .inl zT_shortest)), (aT_longestTimes, .inl (cyI, 5, .inl zT_longestTimes))] H → va_D A [(aT, .inr (5, [.int zT.1, .ref aT_signs, .ref aT_members, .ref aT_shortest, .ref aT_longestTimes, .int zT.2])), (aT_signs, .inl (cyI, 60, .inl zT_signs)), (aT_members, .inl (cyI, 5, .inl zT_members)), (aT_shortest, .inl (cyI, 5, .inl zT_shortest)), (aT_longestTimes, .inl (cyI, 5, .inl zT_longestTimes))] → va_S A s.heap H locs → lv_has ls 4 [(0, .ref aT), (1, .int x1), (2, .int x2), (3, .int x3)] → W p l e (headSpec wsX3_parse rm_X3_parse).room s m args below meth c H locs 0 0 (MQ below Qc args s 0 0 A) (F0 m 4 ls []) := by
    intro n
    induction n with
    | zero =>
      intro x1 x2 x3 zT zT_members zT_shortest zT_longestTimes h
      exact nomatch h
    | succ n ih =>
      intro x1 x2 x3 zT zT_members zT_shortest zT_longestTimes h H locs ls hP hD hS hl
      have h : (if 5 ≤ x3 then (some ((((-1)) - x2, (zT, zT_members, zT_shortest, zT_longestTimes)))) else (gk_bd (m_X3_parsePhase F x3 x2 x1 zT zT_signs zT_members zT_shortest zT_longestTimes) (fun v2 => (if 0 ≤ v2.1 then (if v2.1 < v2.2.1.1 then (gk_ck v2.1 60 ((if (zT_signs v2.1.toNatClampNeg) = 59 then (if x3 = 4 then (some ((((-1)) - v2.1, (v2.2.1, v2.2.2.1, v2.2.2.2.1, v2.2.2.2.2)))) else (m_X3_parse_L4 F zT_signs n) x1 (v2.1 + 1) (x3 + 1) v2.2.1 v2.2.2.1 v2.2.2.2.1 v2.2.2.2.2) else (some ((((-1)) - v2.1, (v2.2.1, v2.2.2.1, v2.2.2.2.1, v2.2.2.2.2))))))) else (some ((x3 + 1, (v2.2.1, v2.2.2.1, v2.2.2.2.1, v2.2.2.2.2))))) else (some ((v2.1, (v2.2.1, v2.2.2.1, v2.2.2.2.1, v2.2.2.2.2)))))))) = some r0 := h
      refine lv_iload_n hx hb dX3_parse_4 rfl (lv_at hl 3 rfl) ?_
      refine lv_iconst (v := 5) hx hb dX3_parse_5 (by decide) ?_
      refine lv_icmp_ge (tgt := 64) hx hb dX3_parse_6 (by decide) (fun c_1 => ?_) (fun c_1 => ?_)
      · have h := gk_mt c_1 h
        refine lv_iconst (v := (-1)) hx hb dX3_parse_64 (by decide) ?_
        refine lv_iload_n hx hb dX3_parse_65 rfl (lv_at hl 2 rfl) ?_
        refine lv_isub hx hb dX3_parse_66 ?_
        exact W.iret hx hb hr (hret _ _ (((-1)) - x2) ((zT, zT_members, zT_shortest, zT_longestTimes)) (Option.some.inj h) hP hD hS) hS.2.2 dX3_parse_67
      · have h := gk_mf c_1 h
        refine lv_aload_n hx hb dX3_parse_9 rfl (lv_at hl 0 rfl) ?_
        refine lv_iload_n hx hb dX3_parse_10 rfl (lv_at hl 3 rfl) ?_
        refine lv_iload_n hx hb dX3_parse_11 rfl (lv_at hl 2 rfl) ?_
        refine lv_iload_n hx hb dX3_parse_12 rfl (lv_at hl 1 rfl) ?_
        obtain ⟨v2, hc_2, h⟩ := gk_bd_s h
        have hPc := hP.sub (ws' := [(aT, .inr (5, [.int zT.1, .ref aT_signs, .ref aT_members, .ref aT_shortest, .ref aT_longestTimes, .int zT.2])), (aT_signs, .inl (cyI, 60, .inl zT_signs)), (aT_members, .inl (cyI, 5, .inl zT_members)), (aT_shortest, .inl (cyI, 5, .inl zT_shortest)), (aT_longestTimes, .inl (cyI, 5, .inl zT_longestTimes))]) [0, 1, 2, 3, 4] rfl
        have hDc := hD.sub (ws' := [(aT, .inr (5, [.int zT.1, .ref aT_signs, .ref aT_members, .ref aT_shortest, .ref aT_longestTimes, .int zT.2])), (aT_signs, .inl (cyI, 60, .inl zT_signs)), (aT_members, .inl (cyI, 5, .inl zT_members)), (aT_shortest, .inl (cyI, 5, .inl zT_shortest)), (aT_longestTimes, .inl (cyI, 5, .inl zT_longestTimes))]) [0, 1, 2, 3, 4] (by decide) rfl
        have hFc := va_free (wc := [(aT, .inr (5, [.int zT.1, .ref aT_signs, .ref aT_members, .ref aT_shortest, .ref aT_longestTimes, .int zT.2])), (aT_signs, .inl (cyI, 60, .inl zT_signs)), (aT_members, .inl (cyI, 5, .inl zT_members)), (aT_shortest, .inl (cyI, 5, .inl zT_shortest)), (aT_longestTimes, .inl (cyI, 5, .inl zT_longestTimes))]) hD hS hA [0, 1, 2, 3, 4] rfl
        refine va_calli (va_runV (As := [.int x3, .int x2, .int x1]) (rest := []) ⟨hx, hb, hml, hown, hts⟩ (c_X3_parsePhase l dC dI cyI cyJ cyZ F aT aT_signs aT_members aT_shortest aT_longestTimes H.size x3 x2 x1 zT zT_signs zT_members zT_shortest zT_longestTimes v2 hc_2) (cwV 3 hts gX3_parse_X3_parsePhase rfl rfl rfl (by decide +kernel) ⟨Nat.le_of_ble_eq_true rfl, Nat.le_of_ble_eq_true rfl⟩) ⟨fun a U g mk q => by obtain ⟨q0, q1, qP, qK, qD⟩ := q; exact ⟨q0, q1, qP, va_K.moved (u := U) (U := U.calling g mk a) (Vm.Alike.refl U.vm) qK, qD⟩, va_recv hK hP (ci := 5) (q0 := 0) rfl rfl, fun U hU hW => ⟨rfl, by rw [hU], by rw [hU]; exact hPc, va_K.moved hW.alike hK, hDc.weaken (fun _ _ _ _ => trivial)⟩⟩ rfl rfl hl.1 rfl (lv_room (Nat.le_of_ble_eq_true rfl)) dX3_parse_13 ⟨Nat.zero_le _, Nat.zero_le _⟩) hS (fun q _ h => hFc q h) hFc (fun r_2 u_2 t_2 H1 locs ht hvm hw hB hz1 hk1 hS => ?_)
        obtain ⟨rfl, rfl⟩ : r_2 = v2.1 ∧ u_2 = v2.2 := by rw [← hw]; exact ⟨rfl, rfl⟩
        obtain ⟨hP1, hK1, hD1⟩ := hB
        rw [ht] at hP1
        obtain ⟨hP, hD⟩ := va_join (wr := []) (w1 := [(aT, .inr (5, [.int v2.2.1.1, .ref aT_signs, .ref aT_members, .ref aT_shortest, .ref aT_longestTimes, .int v2.2.1.2])), (aT_signs, .inl (cyI, 60, .inl zT_signs)), (aT_members, .inl (cyI, 5, .inl v2.2.2.1)), (aT_shortest, .inl (cyI, 5, .inl v2.2.2.2.1)), (aT_longestTimes, .inl (cyI, 5, .inl v2.2.2.2.2))]) hP hD [0, 1, 2, 3, 4] [] rfl rfl (by decide) (by decide) hk1 hFc hP1 hD1
        generalize H1 = H at hP hS ⊢
        have hP := hP.sub (ws' := [(aT, .inr (5, [.int v2.2.1.1, .ref aT_signs, .ref aT_members, .ref aT_shortest, .ref aT_longestTimes, .int v2.2.1.2])), (aT_signs, .inl (cyI, 60, .inl zT_signs)), (aT_members, .inl (cyI, 5, .inl v2.2.2.1)), (aT_shortest, .inl (cyI, 5, .inl v2.2.2.2.1)), (aT_longestTimes, .inl (cyI, 5, .inl v2.2.2.2.2))]) [0, 1, 2, 3, 4] rfl
        have hD := hD.sub (ws' := [(aT, .inr (5, [.int v2.2.1.1, .ref aT_signs, .ref aT_members, .ref aT_shortest, .ref aT_longestTimes, .int v2.2.1.2])), (aT_signs, .inl (cyI, 60, .inl zT_signs)), (aT_members, .inl (cyI, 5, .inl v2.2.2.1)), (aT_shortest, .inl (cyI, 5, .inl v2.2.2.2.1)), (aT_longestTimes, .inl (cyI, 5, .inl v2.2.2.2.2))]) [0, 1, 2, 3, 4] (by decide) rfl
        clear hPc hDc hFc hP1 hK1 hD1
        refine lv_istore_n (lv' := [(2, .int v2.1), (0, .ref aT), (1, .int x1), (3, .int x3)]) hx hb dX3_parse_16 rfl hl (by decide) rfl (fun ls hl => ?_)
        refine lv_iload_n hx hb dX3_parse_17 rfl (lv_at hl 0 rfl) ?_
        refine lv_if_ge (tgt := 23) hx hb dX3_parse_18 (by decide) (fun c_3 => ?_) (fun c_3 => ?_)
        · have h := gk_mt c_3 h
          refine lv_iload_n hx hb dX3_parse_23 rfl (lv_at hl 0 rfl) ?_
          refine lv_aload_n hx hb dX3_parse_24 rfl (lv_at hl 1 rfl) ?_
          refine va_get (D := (dC, dI)) (ci := 5) (v := .int v2.2.1.1) (C := RX3) (T := TX3) (N := 6) hx hb hts hinX3 hown hK hP 0 rfl rfl 0 (by decide) hf_24 (fun _ h9 => h9) rfl dX3_parse_25 ?_
          refine lv_icmp_lt (tgt := 35) hx hb dX3_parse_28 (by decide) (fun c_4 => ?_) (fun c_4 => ?_)
          · have h := gk_mt c_4 h
            refine lv_aload_n hx hb dX3_parse_35 rfl (lv_at hl 1 rfl) ?_
            refine va_get (D := (dC, dI)) (ci := 5) (v := .ref aT_signs) (C := RX3) (T := TX3) (N := 6) hx hb hts hinX3 hown hK hP 0 rfl rfl 1 (by decide) hf_9 (fun _ h9 => h9) rfl dX3_parse_36 ?_
            refine lv_iload_n hx hb dX3_parse_39 rfl (lv_at hl 0 rfl) ?_
            obtain ⟨c_5, h⟩ := gk_ck_s h
            refine va_iald hx hb hK hP 1 0 rfl rfl c_5 dX3_parse_40 ?_
            refine lv_bipush (v := 59) hx hb dX3_parse_41 (by decide) ?_
            refine lv_icmp_ne (tgt := 51) hx hb dX3_parse_43 (by decide) (fun c_6 => ?_) (fun c_6 => ?_)
            · have h := gk_mf c_6 h
              refine lv_iconst (v := (-1)) hx hb dX3_parse_51 (by decide) ?_
              refine lv_iload_n hx hb dX3_parse_52 rfl (lv_at hl 0 rfl) ?_
              refine lv_isub hx hb dX3_parse_53 ?_
              exact W.iret hx hb hr (hret _ _ (((-1)) - v2.1) ((v2.2.1, v2.2.2.1, v2.2.2.2.1, v2.2.2.2.2)) (Option.some.inj h) hP hD hS) hS.2.2 dX3_parse_54
            · have h := gk_mt c_6 h
              refine lv_iload_n hx hb dX3_parse_46 rfl (lv_at hl 3 rfl) ?_
              refine lv_iconst (v := 4) hx hb dX3_parse_47 (by decide) ?_
              refine lv_icmp_ne (tgt := 55) hx hb dX3_parse_48 (by decide) (fun c_7 => ?_) (fun c_7 => ?_)
              · have h := gk_mf c_7 h
                refine lv_iinc (v := v2.1 + 1) (lv' := [(2, .int (v2.1 + 1)), (0, .ref aT), (1, .int x1), (3, .int x3)]) hx hb dX3_parse_55 hl (k := 0) rfl rfl (by decide) rfl (fun ls hl => ?_)
                refine lv_iinc (v := x3 + 1) (lv' := [(3, .int (x3 + 1)), (2, .int (v2.1 + 1)), (0, .ref aT), (1, .int x1)]) hx hb dX3_parse_58 hl (k := 3) rfl rfl (by decide) rfl (fun ls hl => ?_)
                refine lv_goto (tgt := 4) hx hb dX3_parse_61 (by decide) ?_
                exact ih x1 (v2.1 + 1) (x3 + 1) v2.2.1 v2.2.2.1 v2.2.2.2.1 v2.2.2.2.2 h _ _ _ hP hD hS (lv_sub hl [2, 3, 1, 0] rfl)
              · have h := gk_mt c_7 h
                refine lv_iconst (v := (-1)) hx hb dX3_parse_51 (by decide) ?_
                refine lv_iload_n hx hb dX3_parse_52 rfl (lv_at hl 0 rfl) ?_
                refine lv_isub hx hb dX3_parse_53 ?_
                exact W.iret hx hb hr (hret _ _ (((-1)) - v2.1) ((v2.2.1, v2.2.2.1, v2.2.2.2.1, v2.2.2.2.2)) (Option.some.inj h) hP hD hS) hS.2.2 dX3_parse_54
          · have h := gk_mf c_4 h
            refine lv_iload_n hx hb dX3_parse_31 rfl (lv_at hl 3 rfl) ?_
            refine lv_iconst (v := 1) hx hb dX3_parse_32 (by decide) ?_
            refine lv_iadd hx hb dX3_parse_33 ?_
            exact W.iret hx hb hr (hret _ _ (x3 + 1) ((v2.2.1, v2.2.2.1, v2.2.2.2.1, v2.2.2.2.2)) (Option.some.inj h) hP hD hS) hS.2.2 dX3_parse_34
        · have h := gk_mf c_3 h
          refine lv_iload_n hx hb dX3_parse_21 rfl (lv_at hl 0 rfl) ?_
          exact W.iret hx hb hr (hret _ _ v2.1 ((v2.2.1, v2.2.2.1, v2.2.2.2.1, v2.2.2.2.2)) (Option.some.inj h) hP hD hS) hS.2.2 dX3_parse_22
  have h : m_X3_parse_L4 F zT_signs F p1 0 0 zT zT_members zT_shortest zT_longestTimes = some r0 := h
  have hH : True := trivial
  refine lv_iconst (v := 0) hx hb dX3_parse_0 (by decide) ?_
  refine lv_istore_n (lv' := [(2, .int 0), (0, .ref aT), (1, .int p1)]) hx hb dX3_parse_1 rfl hl (by decide) rfl (fun ls hl => ?_)
  refine lv_iconst (v := 0) hx hb dX3_parse_2 (by decide) ?_
  refine lv_istore_n (lv' := [(3, .int 0), (2, .int 0), (0, .ref aT), (1, .int p1)]) hx hb dX3_parse_3 rfl hl (by decide) rfl (fun ls hl => ?_)
  exact w_L4 F p1 0 0 zT zT_members zT_shortest zT_longestTimes h _ _ _ hP hD hS (lv_sub hl [2, 3, 1, 0] rfl)
