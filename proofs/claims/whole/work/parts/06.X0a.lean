/-! J7_fill_53178 -/
noncomputable def m_J7_fill_53178_L5 (F : Nat) (nR : Nat)   (n : Nat) : (Int32) → (Int32) → (Int32) → (Nat → Int32) → Option ((Nat → Int32)) := Nat.rec (motive := fun _ => (Int32) → (Int32) → (Int32) → (Nat → Int32) → Option ((Nat → Int32))) (fun _ _ _ _ => none) (fun _ ih => fun x1 x2 x3 zR => (if x3 ≤ x2 then (some zR) else (gk_ck x2 nR (ih x1 (x2 + 1) x3 (upd zR x2.toNatClampNeg x1))))) n
noncomputable def m_J7_fill_53178 (F : Nat) (nR : Nat) (p1 : Int32) (zR : Nat → Int32) : Option ((Nat → Int32)) := m_J7_fill_53178_L5 F nR F p1 0 (Int32.ofNat nR) zR
abbrev rm_J7_fill_53178 : Room := { frames := 0, cells := 0, slots := 0, locals := 0 }
set_option maxHeartbeats 40000000 in
set_option maxRecDepth 100000 in
theorem c_J7_fill_53178 (l : Launch) (dC : Nat → ClassId) (dI : Nat → Nat → Nat) (cyI cyJ cyZ : ClassId) (F : Nat) (nR : Nat) (aR : Nat) (sz : Nat) (p1 : Int32) (zR : Nat → Int32) (r0 : (Nat → Int32)) (h : m_J7_fill_53178 F nR p1 zR = some r0) : Met l yJ7_fill_53178 wsJ7_fill_53178 rm_J7_fill_53178 (va_Pc [.ref aR, .int p1] (fun U => U.heap.size = sz ∧ va_P (dC, dI) vwCl [(aR, .inl (cyI, nR, .inl zR))] U.heap ∧ va_K (dC, dI) vwCl [(cyI, .int), (cyJ, .long), (cyZ, .boolean)] U ∧ va_D (fun _ => True) [(aR, .inl (cyI, nR, .inl zR))])) (va_Qv (fun (u : (Nat → Int32)) => u = r0) (fun u t => va_P (dC, dI) vwCl [(aR, .inl (cyI, nR, .inl u))] t.heap ∧ va_K (dC, dI) vwCl [(cyI, .int), (cyJ, .long), (cyZ, .boolean)] t ∧ va_D (va_A [(aR, .inl (cyI, nR, .inl zR))] sz) [(aR, .inl (cyI, nR, .inl u))]) (va_A [(aR, .inl (cyI, nR, .inl zR))] sz)) 0 0 (va_A [(aR, .inl (cyI, nR, .inl zR))] sz) := by
  refine Met.ofW (cc := cJ7_fill_53178) (maxL := 4) (ret := none) (by decide) rfl ?_
  intro p e s m args below meth c s₁ B hml hv
  obtain ⟨hargs, hsz, hP, hK, hD0⟩ := hv
  have hx := B.exec
  have hb := B.bytes
  have hr := B.returns
  have hts := atoms_spec (ws := wsJ7_fill_53178) B.pre
  have hown : s.vm.findClass RJ7 = some m.cls := findClass_of_methodNamed B.named
  have hlocks := B.notSynchronized
  subst hsz
  have hD := hD0.self (sz := s.heap.size)
  generalize hAe : va_A [(aR, .inl (cyI, nR, .inl zR))] s.heap.size = A at hD ⊢
  have hA : ∀ q : Nat, s.heap.size ≤ q → A q := fun q h => by rw [← hAe]; exact Or.inr h
  have hS : va_S A s.heap s.heap [] := va_S.rf
  have hret : ∀ (H : Heap) (locs : List Loc) (u : (Nat → Int32)), u = r0 → va_P (dC, dI) vwCl [(aR, .inl (cyI, nR, .inl u))] H → va_D A [(aR, .inl (cyI, nR, .inl u))] → va_S A s.heap H locs → ∀ t : State, t.heap = H → s.WarmedH t.vm → (va_Qv (fun (u : (Nat → Int32)) => u = r0) (fun u t => va_P (dC, dI) vwCl [(aR, .inl (cyI, nR, .inl u))] t.heap ∧ va_K (dC, dI) vwCl [(cyI, .int), (cyJ, .long), (cyZ, .boolean)] t ∧ va_D A [(aR, .inl (cyI, nR, .inl u))]) A) args s (.returned none) t := fun H locs u hu hP hD hS t ht hW => ⟨⟨u, rfl, hu, by rw [ht]; exact hP, va_K.moved hW.alike hK, hD⟩, hS.F ht⟩
  generalize hQc : va_Qv (fun (u : (Nat → Int32)) => u = r0) (fun u t => va_P (dC, dI) vwCl [(aR, .inl (cyI, nR, .inl u))] t.heap ∧ va_K (dC, dI) vwCl [(cyI, .int), (cyJ, .long), (cyZ, .boolean)] t ∧ va_D A [(aR, .inl (cyI, nR, .inl u))]) A = Qc at hret ⊢
  have hl := lv_entry ([.ref aR, .int p1]) (n := 4) (Nat.le_of_ble_eq_true rfl)
  rw [hargs, lg_entry_eq, ← hargs]
  generalize (lg_sl ([.ref aR, .int p1]) ++ List.replicate (4 - (lg_sl ([.ref aR, .int p1])).length) Slot.unset).toArray = ls at hl ⊢
  have hl : lv_has ls 4 [(0, .ref aR), (1, .int p1)] := hl
  have w_L5 : ∀  (n : Nat), ∀ (x1 : Int32) (x2 : Int32) (x3 : Int32) (zR : Nat → Int32), (m_J7_fill_53178_L5 F nR n) x1 x2 x3 zR = some r0 → ∀ (H : Heap) (locs : List Loc) (ls : Array Slot), va_P (dC, dI) vwCl [(aR, .inl (cyI, nR, .inl zR))] H → va_D A [(aR, .inl (cyI, nR, .inl zR))] → va_S A s.heap H locs → lv_has ls 4 [(0, .ref aR), (1, .int x1), (2, .int x2), (3, .int x3)] → W p l e (headSpec wsJ7_fill_53178 rm_J7_fill_53178).room s m args below meth c H locs 0 0 (MQ below Qc args s 0 0 A) (F0 m 5 ls []) := by
    intro n
    induction n with
    | zero =>
      intro x1 x2 x3 zR h
      exact nomatch h
    | succ n ih =>
      intro x1 x2 x3 zR h H locs ls hP hD hS hl
      have h : (if x3 ≤ x2 then (some zR) else (gk_ck x2 nR ((m_J7_fill_53178_L5 F nR n) x1 (x2 + 1) x3 (upd zR x2.toNatClampNeg x1)))) = some r0 := h
      refine lv_iload_n hx hb dJ7_fill_53178_5 rfl (lv_at hl 2 rfl) ?_
      refine lv_iload_n hx hb dJ7_fill_53178_6 rfl (lv_at hl 3 rfl) ?_
      refine lv_icmp_ge (tgt := 20) hx hb dJ7_fill_53178_7 (by decide) (fun c_1 => ?_) (fun c_1 => ?_)
      · have h := gk_mt c_1 h
        exact W.vret hx hb hr (hret _ _ zR (Option.some.inj h) hP hD hS) hS.2.2 dJ7_fill_53178_20
      · have h := gk_mf c_1 h
        refine lv_aload_n hx hb dJ7_fill_53178_10 rfl (lv_at hl 0 rfl) ?_
        refine lv_iload_n hx hb dJ7_fill_53178_11 rfl (lv_at hl 2 rfl) ?_
        refine lv_iload_n hx hb dJ7_fill_53178_12 rfl (lv_at hl 1 rfl) ?_
        obtain ⟨c_2, h⟩ := gk_ck_s h
        refine va_iast hx hb hK hP hD hS 0 0 rfl rfl c_2 dJ7_fill_53178_13 (fun H locs hP hD hS => ?_)
        have hP : va_P (dC, dI) vwCl [(aR, .inl (cyI, nR, .inl (upd zR x2.toNatClampNeg x1)))] H := hP
        have hD : va_D A [(aR, .inl (cyI, nR, .inl (upd zR x2.toNatClampNeg x1)))] := hD
        refine lv_iinc (v := x2 + 1) (lv' := [(2, .int (x2 + 1)), (0, .ref aR), (1, .int x1), (3, .int x3)]) hx hb dJ7_fill_53178_14 hl (k := 2) rfl rfl (by decide) rfl (fun ls hl => ?_)
        refine lv_goto (tgt := 5) hx hb dJ7_fill_53178_17 (by decide) ?_
        exact ih x1 (x2 + 1) x3 (upd zR x2.toNatClampNeg x1) h _ _ _ hP hD hS (lv_sub hl [1, 2, 0, 3] rfl)
  have h : m_J7_fill_53178_L5 F nR F p1 0 (Int32.ofNat nR) zR = some r0 := h
  have hH : True := trivial
  refine lv_iconst (v := 0) hx hb dJ7_fill_53178_0 (by decide) ?_
  refine lv_istore_n (lv' := [(2, .int 0), (0, .ref aR), (1, .int p1)]) hx hb dJ7_fill_53178_1 rfl hl (by decide) rfl (fun ls hl => ?_)
  refine lv_aload_n hx hb dJ7_fill_53178_2 rfl (lv_at hl 1 rfl) ?_
  refine va_alen (v := Int32.ofNat nR) hx hb hK hP 0 0 rfl rfl rfl dJ7_fill_53178_3 ?_
  refine lv_istore_n (lv' := [(3, .int (Int32.ofNat nR)), (2, .int 0), (0, .ref aR), (1, .int p1)]) hx hb dJ7_fill_53178_4 rfl hl (by decide) rfl (fun ls hl => ?_)
  exact w_L5 F p1 0 (Int32.ofNat nR) zR h _ _ _ hP hD hS (lv_sub hl [2, 3, 1, 0] rfl)
/-! X0_isGroup -/
noncomputable def m_X0_isGroup (F : Nat) (p1 : Int32) (zX : Int32 × Int32) : Option (Int32) := (if p1 < 0 then (some 0) else (if zX.1 ≤ p1 then (some 0) else (some 1)))
abbrev rm_X0_isGroup : Room := { frames := 0, cells := 0, slots := 0, locals := 0 }
set_option maxHeartbeats 40000000 in
set_option maxRecDepth 100000 in
theorem c_X0_isGroup (l : Launch) (dC : Nat → ClassId) (dI : Nat → Nat → Nat) (cyI cyJ cyZ : ClassId) (F : Nat) (aX aX_clashing aX_between aX_leastTimes aX_mostTimes aX_phases aX_members aX_shortest aX_longestTimes : Nat) (sz : Nat) (p1 : Int32) (zX : Int32 × Int32) (r0 : Int32) (h : m_X0_isGroup F p1 zX = some r0) : Met l yX0_isGroup wsX0_isGroup rm_X0_isGroup (va_Pc [.ref aX, .int p1] (fun U => U.heap.size = sz ∧ va_P (dC, dI) vwCl [(aX, .inr (2, [.int zX.1, .int zX.2, .ref aX_clashing, .ref aX_between, .ref aX_leastTimes, .ref aX_mostTimes, .ref aX_phases, .ref aX_members, .ref aX_shortest, .ref aX_longestTimes]))] U.heap ∧ va_K (dC, dI) vwCl [(cyI, .int), (cyJ, .long), (cyZ, .boolean)] U ∧ va_D (fun _ => True) [(aX, .inr (2, [.int zX.1, .int zX.2, .ref aX_clashing, .ref aX_between, .ref aX_leastTimes, .ref aX_mostTimes, .ref aX_phases, .ref aX_members, .ref aX_shortest, .ref aX_longestTimes]))])) (va_Qi (fun (r : Int32) (u : Unit) => r = r0) (fun u t => va_P (dC, dI) vwCl [(aX, .inr (2, [.int zX.1, .int zX.2, .ref aX_clashing, .ref aX_between, .ref aX_leastTimes, .ref aX_mostTimes, .ref aX_phases, .ref aX_members, .ref aX_shortest, .ref aX_longestTimes]))] t.heap ∧ va_K (dC, dI) vwCl [(cyI, .int), (cyJ, .long), (cyZ, .boolean)] t ∧ va_D (va_A [(aX, .inr (2, [.int zX.1, .int zX.2, .ref aX_clashing, .ref aX_between, .ref aX_leastTimes, .ref aX_mostTimes, .ref aX_phases, .ref aX_members, .ref aX_shortest, .ref aX_longestTimes]))] sz) [(aX, .inr (2, [.int zX.1, .int zX.2, .ref aX_clashing, .ref aX_between, .ref aX_leastTimes, .ref aX_mostTimes, .ref aX_phases, .ref aX_members, .ref aX_shortest, .ref aX_longestTimes]))]) (va_A [(aX, .inr (2, [.int zX.1, .int zX.2, .ref aX_clashing, .ref aX_between, .ref aX_leastTimes, .ref aX_mostTimes, .ref aX_phases, .ref aX_members, .ref aX_shortest, .ref aX_longestTimes]))] sz)) 0 0 (va_A [(aX, .inr (2, [.int zX.1, .int zX.2, .ref aX_clashing, .ref aX_between, .ref aX_leastTimes, .ref aX_mostTimes, .ref aX_phases, .ref aX_members, .ref aX_shortest, .ref aX_longestTimes]))] sz) := by
  refine Met.ofW (cc := cX0_isGroup) (maxL := 2) (ret := (some .boolean)) (by decide) rfl ?_
  intro p e s m args below meth c s₁ B hml hv
  obtain ⟨hargs, hsz, hP, hK, hD0⟩ := hv
  have hx := B.exec
  have hb := B.bytes
  have hr := B.returns
  have hts := atoms_spec (ws := wsX0_isGroup) B.pre
  have hown : s.vm.findClass RX0 = some m.cls := findClass_of_methodNamed B.named
  have hlocks := B.notSynchronized
  have hinX0 : ∀ w ∈ u_ws RX0 TX0 10, w ∈ wsX0_isGroup := by decide +kernel
  have hf_36 := hts (.fieldLink RX0 36 "SignalProofs$Crossing" "groups" "I") (by decide +kernel)
  subst hsz
  have hD := hD0.self (sz := s.heap.size)
  generalize hAe : va_A [(aX, .inr (2, [.int zX.1, .int zX.2, .ref aX_clashing, .ref aX_between, .ref aX_leastTimes, .ref aX_mostTimes, .ref aX_phases, .ref aX_members, .ref aX_shortest, .ref aX_longestTimes]))] s.heap.size = A at hD ⊢
  have hA : ∀ q : Nat, s.heap.size ≤ q → A q := fun q h => by rw [← hAe]; exact Or.inr h
  have hS : va_S A s.heap s.heap [] := va_S.rf
  have hret : ∀ (H : Heap) (locs : List Loc) (r : Int32) (u : Unit), r = r0 → va_P (dC, dI) vwCl [(aX, .inr (2, [.int zX.1, .int zX.2, .ref aX_clashing, .ref aX_between, .ref aX_leastTimes, .ref aX_mostTimes, .ref aX_phases, .ref aX_members, .ref aX_shortest, .ref aX_longestTimes]))] H → va_D A [(aX, .inr (2, [.int zX.1, .int zX.2, .ref aX_clashing, .ref aX_between, .ref aX_leastTimes, .ref aX_mostTimes, .ref aX_phases, .ref aX_members, .ref aX_shortest, .ref aX_longestTimes]))] → va_S A s.heap H locs → ∀ t : State, t.heap = H → s.WarmedH t.vm → (va_Qi (fun (r : Int32) (u : Unit) => r = r0) (fun u t => va_P (dC, dI) vwCl [(aX, .inr (2, [.int zX.1, .int zX.2, .ref aX_clashing, .ref aX_between, .ref aX_leastTimes, .ref aX_mostTimes, .ref aX_phases, .ref aX_members, .ref aX_shortest, .ref aX_longestTimes]))] t.heap ∧ va_K (dC, dI) vwCl [(cyI, .int), (cyJ, .long), (cyZ, .boolean)] t ∧ va_D A [(aX, .inr (2, [.int zX.1, .int zX.2, .ref aX_clashing, .ref aX_between, .ref aX_leastTimes, .ref aX_mostTimes, .ref aX_phases, .ref aX_members, .ref aX_shortest, .ref aX_longestTimes]))]) A) args s (.returned (some (.int r))) t := fun H locs r u hu hP hD hS t ht hW => ⟨⟨r, u, rfl, hu, by rw [ht]; exact hP, va_K.moved hW.alike hK, hD⟩, hS.F ht⟩
  generalize hQc : va_Qi (fun (r : Int32) (u : Unit) => r = r0) (fun u t => va_P (dC, dI) vwCl [(aX, .inr (2, [.int zX.1, .int zX.2, .ref aX_clashing, .ref aX_between, .ref aX_leastTimes, .ref aX_mostTimes, .ref aX_phases, .ref aX_members, .ref aX_shortest, .ref aX_longestTimes]))] t.heap ∧ va_K (dC, dI) vwCl [(cyI, .int), (cyJ, .long), (cyZ, .boolean)] t ∧ va_D A [(aX, .inr (2, [.int zX.1, .int zX.2, .ref aX_clashing, .ref aX_between, .ref aX_leastTimes, .ref aX_mostTimes, .ref aX_phases, .ref aX_members, .ref aX_shortest, .ref aX_longestTimes]))]) A = Qc at hret ⊢
  have hl := lv_entry ([.ref aX, .int p1]) (n := 2) (Nat.le_of_ble_eq_true rfl)
  rw [hargs, lg_entry_eq, ← hargs]
  generalize (lg_sl ([.ref aX, .int p1]) ++ List.replicate (2 - (lg_sl ([.ref aX, .int p1])).length) Slot.unset).toArray = ls at hl ⊢
  have hl : lv_has ls 2 [(0, .ref aX), (1, .int p1)] := hl
  have h : (if p1 < 0 then (some 0) else (if zX.1 ≤ p1 then (some 0) else (some 1))) = some r0 := h
  have hH : True := trivial
  refine lv_iload_n hx hb dX0_isGroup_0 rfl (lv_at hl 1 rfl) ?_
  refine lv_if_lt (tgt := 16) hx hb dX0_isGroup_1 (by decide) (fun c_1 => ?_) (fun c_1 => ?_)
  · have h := gk_mt c_1 h
    refine lv_iconst (v := 0) hx hb dX0_isGroup_16 (by decide) ?_
    exact W.zret hx hb hr rfl (hret _ _ 0 (()) (Option.some.inj h) hP hD hS) hS.2.2 dX0_isGroup_17
  · have h := gk_mf c_1 h
    refine lv_iload_n hx hb dX0_isGroup_4 rfl (lv_at hl 1 rfl) ?_
    refine lv_aload_n hx hb dX0_isGroup_5 rfl (lv_at hl 0 rfl) ?_
    refine va_get (D := (dC, dI)) (ci := 2) (v := .int zX.1) (C := RX0) (T := TX0) (N := 10) hx hb hts hinX0 hown hK hP 0 rfl rfl 0 (by decide) hf_36 (fun _ h9 => h9) rfl dX0_isGroup_6 ?_
    refine lv_icmp_ge (tgt := 16) hx hb dX0_isGroup_9 (by decide) (fun c_2 => ?_) (fun c_2 => ?_)
    · have h := gk_mt c_2 h
      refine lv_iconst (v := 0) hx hb dX0_isGroup_16 (by decide) ?_
      exact W.zret hx hb hr rfl (hret _ _ 0 (()) (Option.some.inj h) hP hD hS) hS.2.2 dX0_isGroup_17
    · have h := gk_mf c_2 h
      refine lv_iconst (v := 1) hx hb dX0_isGroup_12 (by decide) ?_
      refine lv_goto (tgt := 17) hx hb dX0_isGroup_13 (by decide) ?_
      exact W.zret hx hb hr rfl (hret _ _ 1 (()) (Option.some.inj h) hP hD hS) hS.2.2 dX0_isGroup_17
/-! X0_isPlan -/
noncomputable def m_X0_isPlan (F : Nat) (p1 : Int32) (zX : Int32 × Int32) : Option (Int32) := (if p1 < 0 then (some 0) else (if zX.2 ≤ p1 then (some 0) else (some 1)))
abbrev rm_X0_isPlan : Room := { frames := 0, cells := 0, slots := 0, locals := 0 }
set_option maxHeartbeats 40000000 in
set_option maxRecDepth 100000 in
theorem c_X0_isPlan (l : Launch) (dC : Nat → ClassId) (dI : Nat → Nat → Nat) (cyI cyJ cyZ : ClassId) (F : Nat) (aX aX_clashing aX_between aX_leastTimes aX_mostTimes aX_phases aX_members aX_shortest aX_longestTimes : Nat) (sz : Nat) (p1 : Int32) (zX : Int32 × Int32) (r0 : Int32) (h : m_X0_isPlan F p1 zX = some r0) : Met l yX0_isPlan wsX0_isPlan rm_X0_isPlan (va_Pc [.ref aX, .int p1] (fun U => U.heap.size = sz ∧ va_P (dC, dI) vwCl [(aX, .inr (2, [.int zX.1, .int zX.2, .ref aX_clashing, .ref aX_between, .ref aX_leastTimes, .ref aX_mostTimes, .ref aX_phases, .ref aX_members, .ref aX_shortest, .ref aX_longestTimes]))] U.heap ∧ va_K (dC, dI) vwCl [(cyI, .int), (cyJ, .long), (cyZ, .boolean)] U ∧ va_D (fun _ => True) [(aX, .inr (2, [.int zX.1, .int zX.2, .ref aX_clashing, .ref aX_between, .ref aX_leastTimes, .ref aX_mostTimes, .ref aX_phases, .ref aX_members, .ref aX_shortest, .ref aX_longestTimes]))])) (va_Qi (fun (r : Int32) (u : Unit) => r = r0) (fun u t => va_P (dC, dI) vwCl [(aX, .inr (2, [.int zX.1, .int zX.2, .ref aX_clashing, .ref aX_between, .ref aX_leastTimes, .ref aX_mostTimes, .ref aX_phases, .ref aX_members, .ref aX_shortest, .ref aX_longestTimes]))] t.heap ∧ va_K (dC, dI) vwCl [(cyI, .int), (cyJ, .long), (cyZ, .boolean)] t ∧ va_D (va_A [(aX, .inr (2, [.int zX.1, .int zX.2, .ref aX_clashing, .ref aX_between, .ref aX_leastTimes, .ref aX_mostTimes, .ref aX_phases, .ref aX_members, .ref aX_shortest, .ref aX_longestTimes]))] sz) [(aX, .inr (2, [.int zX.1, .int zX.2, .ref aX_clashing, .ref aX_between, .ref aX_leastTimes, .ref aX_mostTimes, .ref aX_phases, .ref aX_members, .ref aX_shortest, .ref aX_longestTimes]))]) (va_A [(aX, .inr (2, [.int zX.1, .int zX.2, .ref aX_clashing, .ref aX_between, .ref aX_leastTimes, .ref aX_mostTimes, .ref aX_phases, .ref aX_members, .ref aX_shortest, .ref aX_longestTimes]))] sz)) 0 0 (va_A [(aX, .inr (2, [.int zX.1, .int zX.2, .ref aX_clashing, .ref aX_between, .ref aX_leastTimes, .ref aX_mostTimes, .ref aX_phases, .ref aX_members, .ref aX_shortest, .ref aX_longestTimes]))] sz) := by
  refine Met.ofW (cc := cX0_isPlan) (maxL := 2) (ret := (some .boolean)) (by decide) rfl ?_
  intro p e s m args below meth c s₁ B hml hv
  obtain ⟨hargs, hsz, hP, hK, hD0⟩ := hv
  have hx := B.exec
  have hb := B.bytes
  have hr := B.returns
  have hts := atoms_spec (ws := wsX0_isPlan) B.pre
  have hown : s.vm.findClass RX0 = some m.cls := findClass_of_methodNamed B.named
  have hlocks := B.notSynchronized
  have hinX0 : ∀ w ∈ u_ws RX0 TX0 10, w ∈ wsX0_isPlan := by decide +kernel
  have hf_40 := hts (.fieldLink RX0 40 "SignalProofs$Crossing" "plans" "I") (by decide +kernel)
  subst hsz
  have hD := hD0.self (sz := s.heap.size)
  generalize hAe : va_A [(aX, .inr (2, [.int zX.1, .int zX.2, .ref aX_clashing, .ref aX_between, .ref aX_leastTimes, .ref aX_mostTimes, .ref aX_phases, .ref aX_members, .ref aX_shortest, .ref aX_longestTimes]))] s.heap.size = A at hD ⊢
  have hA : ∀ q : Nat, s.heap.size ≤ q → A q := fun q h => by rw [← hAe]; exact Or.inr h
  have hS : va_S A s.heap s.heap [] := va_S.rf
  have hret : ∀ (H : Heap) (locs : List Loc) (r : Int32) (u : Unit), r = r0 → va_P (dC, dI) vwCl [(aX, .inr (2, [.int zX.1, .int zX.2, .ref aX_clashing, .ref aX_between, .ref aX_leastTimes, .ref aX_mostTimes, .ref aX_phases, .ref aX_members, .ref aX_shortest, .ref aX_longestTimes]))] H → va_D A [(aX, .inr (2, [.int zX.1, .int zX.2, .ref aX_clashing, .ref aX_between, .ref aX_leastTimes, .ref aX_mostTimes, .ref aX_phases, .ref aX_members, .ref aX_shortest, .ref aX_longestTimes]))] → va_S A s.heap H locs → ∀ t : State, t.heap = H → s.WarmedH t.vm → (va_Qi (fun (r : Int32) (u : Unit) => r = r0) (fun u t => va_P (dC, dI) vwCl [(aX, .inr (2, [.int zX.1, .int zX.2, .ref aX_clashing, .ref aX_between, .ref aX_leastTimes, .ref aX_mostTimes, .ref aX_phases, .ref aX_members, .ref aX_shortest, .ref aX_longestTimes]))] t.heap ∧ va_K (dC, dI) vwCl [(cyI, .int), (cyJ, .long), (cyZ, .boolean)] t ∧ va_D A [(aX, .inr (2, [.int zX.1, .int zX.2, .ref aX_clashing, .ref aX_between, .ref aX_leastTimes, .ref aX_mostTimes, .ref aX_phases, .ref aX_members, .ref aX_shortest, .ref aX_longestTimes]))]) A) args s (.returned (some (.int r))) t := fun H locs r u hu hP hD hS t ht hW => ⟨⟨r, u, rfl, hu, by rw [ht]; exact hP, va_K.moved hW.alike hK, hD⟩, hS.F ht⟩
  generalize hQc : va_Qi (fun (r : Int32) (u : Unit) => r = r0) (fun u t => va_P (dC, dI) vwCl [(aX, .inr (2, [.int zX.1, .int zX.2, .ref aX_clashing, .ref aX_between, .ref aX_leastTimes, .ref aX_mostTimes, .ref aX_phases, .ref aX_members, .ref aX_shortest, .ref aX_longestTimes]))] t.heap ∧ va_K (dC, dI) vwCl [(cyI, .int), (cyJ, .long), (cyZ, .boolean)] t ∧ va_D A [(aX, .inr (2, [.int zX.1, .int zX.2, .ref aX_clashing, .ref aX_between, .ref aX_leastTimes, .ref aX_mostTimes, .ref aX_phases, .ref aX_members, .ref aX_shortest, .ref aX_longestTimes]))]) A = Qc at hret ⊢
  have hl := lv_entry ([.ref aX, .int p1]) (n := 2) (Nat.le_of_ble_eq_true rfl)
  rw [hargs, lg_entry_eq, ← hargs]
  generalize (lg_sl ([.ref aX, .int p1]) ++ List.replicate (2 - (lg_sl ([.ref aX, .int p1])).length) Slot.unset).toArray = ls at hl ⊢
  have hl : lv_has ls 2 [(0, .ref aX), (1, .int p1)] := hl
  have h : (if p1 < 0 then (some 0) else (if zX.2 ≤ p1 then (some 0) else (some 1))) = some r0 := h
  have hH : True := trivial
  refine lv_iload_n hx hb dX0_isPlan_0 rfl (lv_at hl 1 rfl) ?_
  refine lv_if_lt (tgt := 16) hx hb dX0_isPlan_1 (by decide) (fun c_1 => ?_) (fun c_1 => ?_)
  · have h := gk_mt c_1 h
    refine lv_iconst (v := 0) hx hb dX0_isPlan_16 (by decide) ?_
    exact W.zret hx hb hr rfl (hret _ _ 0 (()) (Option.some.inj h) hP hD hS) hS.2.2 dX0_isPlan_17
  · have h := gk_mf c_1 h
    refine lv_iload_n hx hb dX0_isPlan_4 rfl (lv_at hl 1 rfl) ?_
    refine lv_aload_n hx hb dX0_isPlan_5 rfl (lv_at hl 0 rfl) ?_
    refine va_get (D := (dC, dI)) (ci := 2) (v := .int zX.2) (C := RX0) (T := TX0) (N := 10) hx hb hts hinX0 hown hK hP 0 rfl rfl 1 (by decide) hf_40 (fun _ h9 => h9) rfl dX0_isPlan_6 ?_
    refine lv_icmp_ge (tgt := 16) hx hb dX0_isPlan_9 (by decide) (fun c_2 => ?_) (fun c_2 => ?_)
    · have h := gk_mt c_2 h
      refine lv_iconst (v := 0) hx hb dX0_isPlan_16 (by decide) ?_
      exact W.zret hx hb hr rfl (hret _ _ 0 (()) (Option.some.inj h) hP hD hS) hS.2.2 dX0_isPlan_17
    · have h := gk_mf c_2 h
      refine lv_iconst (v := 1) hx hb dX0_isPlan_12 (by decide) ?_
      refine lv_goto (tgt := 17) hx hb dX0_isPlan_13 (by decide) ?_
      exact W.zret hx hb hr rfl (hret _ _ 1 (()) (Option.some.inj h) hP hD hS) hS.2.2 dX0_isPlan_17
/-! X0_eventCount -/
noncomputable def m_X0_eventCount (F : Nat)  (zX : Int32 × Int32) : Option (Int32) := (some ((1 + zX.1) + zX.2))
abbrev rm_X0_eventCount : Room := { frames := 0, cells := 0, slots := 0, locals := 0 }
set_option maxHeartbeats 40000000 in
set_option maxRecDepth 100000 in
theorem c_X0_eventCount (l : Launch) (dC : Nat → ClassId) (dI : Nat → Nat → Nat) (cyI cyJ cyZ : ClassId) (F : Nat) (aX aX_clashing aX_between aX_leastTimes aX_mostTimes aX_phases aX_members aX_shortest aX_longestTimes : Nat) (sz : Nat)  (zX : Int32 × Int32) (r0 : Int32) (h : m_X0_eventCount F zX = some r0) : Met l yX0_eventCount wsX0_eventCount rm_X0_eventCount (va_Pc [.ref aX] (fun U => U.heap.size = sz ∧ va_P (dC, dI) vwCl [(aX, .inr (2, [.int zX.1, .int zX.2, .ref aX_clashing, .ref aX_between, .ref aX_leastTimes, .ref aX_mostTimes, .ref aX_phases, .ref aX_members, .ref aX_shortest, .ref aX_longestTimes]))] U.heap ∧ va_K (dC, dI) vwCl [(cyI, .int), (cyJ, .long), (cyZ, .boolean)] U ∧ va_D (fun _ => True) [(aX, .inr (2, [.int zX.1, .int zX.2, .ref aX_clashing, .ref aX_between, .ref aX_leastTimes, .ref aX_mostTimes, .ref aX_phases, .ref aX_members, .ref aX_shortest, .ref aX_longestTimes]))])) (va_Qi (fun (r : Int32) (u : Unit) => r = r0) (fun u t => va_P (dC, dI) vwCl [(aX, .inr (2, [.int zX.1, .int zX.2, .ref aX_clashing, .ref aX_between, .ref aX_leastTimes, .ref aX_mostTimes, .ref aX_phases, .ref aX_members, .ref aX_shortest, .ref aX_longestTimes]))] t.heap ∧ va_K (dC, dI) vwCl [(cyI, .int), (cyJ, .long), (cyZ, .boolean)] t ∧ va_D (va_A [(aX, .inr (2, [.int zX.1, .int zX.2, .ref aX_clashing, .ref aX_between, .ref aX_leastTimes, .ref aX_mostTimes, .ref aX_phases, .ref aX_members, .ref aX_shortest, .ref aX_longestTimes]))] sz) [(aX, .inr (2, [.int zX.1, .int zX.2, .ref aX_clashing, .ref aX_between, .ref aX_leastTimes, .ref aX_mostTimes, .ref aX_phases, .ref aX_members, .ref aX_shortest, .ref aX_longestTimes]))]) (va_A [(aX, .inr (2, [.int zX.1, .int zX.2, .ref aX_clashing, .ref aX_between, .ref aX_leastTimes, .ref aX_mostTimes, .ref aX_phases, .ref aX_members, .ref aX_shortest, .ref aX_longestTimes]))] sz)) 0 0 (va_A [(aX, .inr (2, [.int zX.1, .int zX.2, .ref aX_clashing, .ref aX_between, .ref aX_leastTimes, .ref aX_mostTimes, .ref aX_phases, .ref aX_members, .ref aX_shortest, .ref aX_longestTimes]))] sz) := by
  refine Met.ofW (cc := cX0_eventCount) (maxL := 1) (ret := (some .int)) (by decide) rfl ?_
  intro p e s m args below meth c s₁ B hml hv
  obtain ⟨hargs, hsz, hP, hK, hD0⟩ := hv
  have hx := B.exec
  have hb := B.bytes
  have hr := B.returns
  have hts := atoms_spec (ws := wsX0_eventCount) B.pre
  have hown : s.vm.findClass RX0 = some m.cls := findClass_of_methodNamed B.named
  have hlocks := B.notSynchronized
  have hinX0 : ∀ w ∈ u_ws RX0 TX0 10, w ∈ wsX0_eventCount := by decide +kernel
  have hf_36 := hts (.fieldLink RX0 36 "SignalProofs$Crossing" "groups" "I") (by decide +kernel)
  have hf_40 := hts (.fieldLink RX0 40 "SignalProofs$Crossing" "plans" "I") (by decide +kernel)
  subst hsz
  have hD := hD0.self (sz := s.heap.size)
  generalize hAe : va_A [(aX, .inr (2, [.int zX.1, .int zX.2, .ref aX_clashing, .ref aX_between, .ref aX_leastTimes, .ref aX_mostTimes, .ref aX_phases, .ref aX_members, .ref aX_shortest, .ref aX_longestTimes]))] s.heap.size = A at hD ⊢
  have hA : ∀ q : Nat, s.heap.size ≤ q → A q := fun q h => by rw [← hAe]; exact Or.inr h
  have hS : va_S A s.heap s.heap [] := va_S.rf
  have hret : ∀ (H : Heap) (locs : List Loc) (r : Int32) (u : Unit), r = r0 → va_P (dC, dI) vwCl [(aX, .inr (2, [.int zX.1, .int zX.2, .ref aX_clashing, .ref aX_between, .ref aX_leastTimes, .ref aX_mostTimes, .ref aX_phases, .ref aX_members, .ref aX_shortest, .ref aX_longestTimes]))] H → va_D A [(aX, .inr (2, [.int zX.1, .int zX.2, .ref aX_clashing, .ref aX_between, .ref aX_leastTimes, .ref aX_mostTimes, .ref aX_phases, .ref aX_members, .ref aX_shortest, .ref aX_longestTimes]))] → va_S A s.heap H locs → ∀ t : State, t.heap = H → s.WarmedH t.vm → (va_Qi (fun (r : Int32) (u : Unit) => r = r0) (fun u t => va_P (dC, dI) vwCl [(aX, .inr (2, [.int zX.1, .int zX.2, .ref aX_clashing, .ref aX_between, .ref aX_leastTimes, .ref aX_mostTimes, .ref aX_phases, .ref aX_members, .ref aX_shortest, .ref aX_longestTimes]))] t.heap ∧ va_K (dC, dI) vwCl [(cyI, .int), (cyJ, .long), (cyZ, .boolean)] t ∧ va_D A [(aX, .inr (2, [.int zX.1, .int zX.2, .ref aX_clashing, .ref aX_between, .ref aX_leastTimes, .ref aX_mostTimes, .ref aX_phases, .ref aX_members, .ref aX_shortest, .ref aX_longestTimes]))]) A) args s (.returned (some (.int r))) t := fun H locs r u hu hP hD hS t ht hW => ⟨⟨r, u, rfl, hu, by rw [ht]; exact hP, va_K.moved hW.alike hK, hD⟩, hS.F ht⟩
  generalize hQc : va_Qi (fun (r : Int32) (u : Unit) => r = r0) (fun u t => va_P (dC, dI) vwCl [(aX, .inr (2, [.int zX.1, .int zX.2, .ref aX_clashing, .ref aX_between, .ref aX_leastTimes, .ref aX_mostTimes, .ref aX_phases, .ref aX_members, .ref aX_shortest, .ref aX_longestTimes]))] t.heap ∧ va_K (dC, dI) vwCl [(cyI, .int), (cyJ, .long), (cyZ, .boolean)] t ∧ va_D A [(aX, .inr (2, [.int zX.1, .int zX.2, .ref aX_clashing, .ref aX_between, .ref aX_leastTimes, .ref aX_mostTimes, .ref aX_phases, .ref aX_members, .ref aX_shortest, .ref aX_longestTimes]))]) A = Qc at hret ⊢
  have hl := lv_entry ([.ref aX]) (n := 1) (Nat.le_of_ble_eq_true rfl)
  rw [hargs, lg_entry_eq, ← hargs]
  generalize (lg_sl ([.ref aX]) ++ List.replicate (1 - (lg_sl ([.ref aX])).length) Slot.unset).toArray = ls at hl ⊢
  have hl : lv_has ls 1 [(0, .ref aX)] := hl
  have h : (some ((1 + zX.1) + zX.2)) = some r0 := h
  have hH : True := trivial
  refine lv_iconst (v := 1) hx hb dX0_eventCount_0 (by decide) ?_
  refine lv_aload_n hx hb dX0_eventCount_1 rfl (lv_at hl 0 rfl) ?_
  refine va_get (D := (dC, dI)) (ci := 2) (v := .int zX.1) (C := RX0) (T := TX0) (N := 10) hx hb hts hinX0 hown hK hP 0 rfl rfl 0 (by decide) hf_36 (fun _ h9 => h9) rfl dX0_eventCount_2 ?_
  refine lv_iadd hx hb dX0_eventCount_5 ?_
  refine lv_aload_n hx hb dX0_eventCount_6 rfl (lv_at hl 0 rfl) ?_
  refine va_get (D := (dC, dI)) (ci := 2) (v := .int zX.2) (C := RX0) (T := TX0) (N := 10) hx hb hts hinX0 hown hK hP 0 rfl rfl 1 (by decide) hf_40 (fun _ h9 => h9) rfl dX0_eventCount_7 ?_
  refine lv_iadd hx hb dX0_eventCount_10 ?_
  exact W.iret hx hb hr (hret _ _ ((1 + zX.1) + zX.2) (()) (Option.some.inj h) hP hD hS) hS.2.2 dX0_eventCount_11
/-! X0_groupsIn -/
noncomputable def m_X0_groupsIn (F : Nat) (p1 : Int32) (zX : Int32 × Int32) (zX_members : Nat → Int32) : Option (Int32) := (if p1 < 0 then (some 0) else (if 15 ≤ p1 then (some 0) else (gk_ck p1 15 ((some (zX_members p1.toNatClampNeg))))))
abbrev rm_X0_groupsIn : Room := { frames := 0, cells := 0, slots := 0, locals := 0 }
set_option maxHeartbeats 40000000 in
set_option maxRecDepth 100000 in
theorem c_X0_groupsIn (l : Launch) (dC : Nat → ClassId) (dI : Nat → Nat → Nat) (cyI cyJ cyZ : ClassId) (F : Nat) (aX aX_members aX_clashing aX_between aX_leastTimes aX_mostTimes aX_phases aX_shortest aX_longestTimes : Nat) (sz : Nat) (p1 : Int32) (zX : Int32 × Int32) (zX_members : Nat → Int32) (r0 : Int32) (h : m_X0_groupsIn F p1 zX zX_members = some r0) : Met l yX0_groupsIn wsX0_groupsIn rm_X0_groupsIn (va_Pc [.ref aX, .int p1] (fun U => U.heap.size = sz ∧ va_P (dC, dI) vwCl [(aX, .inr (2, [.int zX.1, .int zX.2, .ref aX_clashing, .ref aX_between, .ref aX_leastTimes, .ref aX_mostTimes, .ref aX_phases, .ref aX_members, .ref aX_shortest, .ref aX_longestTimes])), (aX_members, .inl (cyI, 15, .inl zX_members))] U.heap ∧ va_K (dC, dI) vwCl [(cyI, .int), (cyJ, .long), (cyZ, .boolean)] U ∧ va_D (fun _ => True) [(aX, .inr (2, [.int zX.1, .int zX.2, .ref aX_clashing, .ref aX_between, .ref aX_leastTimes, .ref aX_mostTimes, .ref aX_phases, .ref aX_members, .ref aX_shortest, .ref aX_longestTimes])), (aX_members, .inl (cyI, 15, .inl zX_members))])) (va_Qi (fun (r : Int32) (u : Unit) => r = r0) (fun u t => va_P (dC, dI) vwCl [(aX, .inr (2, [.int zX.1, .int zX.2, .ref aX_clashing, .ref aX_between, .ref aX_leastTimes, .ref aX_mostTimes, .ref aX_phases, .ref aX_members, .ref aX_shortest, .ref aX_longestTimes])), (aX_members, .inl (cyI, 15, .inl zX_members))] t.heap ∧ va_K (dC, dI) vwCl [(cyI, .int), (cyJ, .long), (cyZ, .boolean)] t ∧ va_D (va_A [(aX, .inr (2, [.int zX.1, .int zX.2, .ref aX_clashing, .ref aX_between, .ref aX_leastTimes, .ref aX_mostTimes, .ref aX_phases, .ref aX_members, .ref aX_shortest, .ref aX_longestTimes])), (aX_members, .inl (cyI, 15, .inl zX_members))] sz) [(aX, .inr (2, [.int zX.1, .int zX.2, .ref aX_clashing, .ref aX_between, .ref aX_leastTimes, .ref aX_mostTimes, .ref aX_phases, .ref aX_members, .ref aX_shortest, .ref aX_longestTimes])), (aX_members, .inl (cyI, 15, .inl zX_members))]) (va_A [(aX, .inr (2, [.int zX.1, .int zX.2, .ref aX_clashing, .ref aX_between, .ref aX_leastTimes, .ref aX_mostTimes, .ref aX_phases, .ref aX_members, .ref aX_shortest, .ref aX_longestTimes])), (aX_members, .inl (cyI, 15, .inl zX_members))] sz)) 0 0 (va_A [(aX, .inr (2, [.int zX.1, .int zX.2, .ref aX_clashing, .ref aX_between, .ref aX_leastTimes, .ref aX_mostTimes, .ref aX_phases, .ref aX_members, .ref aX_shortest, .ref aX_longestTimes])), (aX_members, .inl (cyI, 15, .inl zX_members))] sz) := by
  refine Met.ofW (cc := cX0_groupsIn) (maxL := 2) (ret := (some .int)) (by decide) rfl ?_
  intro p e s m args below meth c s₁ B hml hv
  obtain ⟨hargs, hsz, hP, hK, hD0⟩ := hv
  have hx := B.exec
  have hb := B.bytes
  have hr := B.returns
  have hts := atoms_spec (ws := wsX0_groupsIn) B.pre
  have hown : s.vm.findClass RX0 = some m.cls := findClass_of_methodNamed B.named
  have hlocks := B.notSynchronized
  have hinX0 : ∀ w ∈ u_ws RX0 TX0 10, w ∈ wsX0_groupsIn := by decide +kernel
  have hf_27 := hts (.fieldLink RX0 27 "SignalProofs$Crossing" "members" "[I") (by decide +kernel)
  subst hsz
  have hD := hD0.self (sz := s.heap.size)
  generalize hAe : va_A [(aX, .inr (2, [.int zX.1, .int zX.2, .ref aX_clashing, .ref aX_between, .ref aX_leastTimes, .ref aX_mostTimes, .ref aX_phases, .ref aX_members, .ref aX_shortest, .ref aX_longestTimes])), (aX_members, .inl (cyI, 15, .inl zX_members))] s.heap.size = A at hD ⊢
  have hA : ∀ q : Nat, s.heap.size ≤ q → A q := fun q h => by rw [← hAe]; exact Or.inr h
  have hS : va_S A s.heap s.heap [] := va_S.rf
  have hret : ∀ (H : Heap) (locs : List Loc) (r : Int32) (u : Unit), r = r0 → va_P (dC, dI) vwCl [(aX, .inr (2, [.int zX.1, .int zX.2, .ref aX_clashing, .ref aX_between, .ref aX_leastTimes, .ref aX_mostTimes, .ref aX_phases, .ref aX_members, .ref aX_shortest, .ref aX_longestTimes])), (aX_members, .inl (cyI, 15, .inl zX_members))] H → va_D A [(aX, .inr (2, [.int zX.1, .int zX.2, .ref aX_clashing, .ref aX_between, .ref aX_leastTimes, .ref aX_mostTimes, .ref aX_phases, .ref aX_members, .ref aX_shortest, .ref aX_longestTimes])), (aX_members, .inl (cyI, 15, .inl zX_members))] → va_S A s.heap H locs → ∀ t : State, t.heap = H → s.WarmedH t.vm → (va_Qi (fun (r : Int32) (u : Unit) => r = r0) (fun u t => va_P (dC, dI) vwCl [(aX, .inr (2, [.int zX.1, .int zX.2, .ref aX_clashing, .ref aX_between, .ref aX_leastTimes, .ref aX_mostTimes, .ref aX_phases, .ref aX_members, .ref aX_shortest, .ref aX_longestTimes])), (aX_members, .inl (cyI, 15, .inl zX_members))] t.heap ∧ va_K (dC, dI) vwCl [(cyI, .int), (cyJ, .long), (cyZ, .boolean)] t ∧ va_D A [(aX, .inr (2, [.int zX.1, .int zX.2, .ref aX_clashing, .ref aX_between, .ref aX_leastTimes, .ref aX_mostTimes, .ref aX_phases, .ref aX_members, .ref aX_shortest, .ref aX_longestTimes])), (aX_members, .inl (cyI, 15, .inl zX_members))]) A) args s (.returned (some (.int r))) t := fun H locs r u hu hP hD hS t ht hW => ⟨⟨r, u, rfl, hu, by rw [ht]; exact hP, va_K.moved hW.alike hK, hD⟩, hS.F ht⟩
  generalize hQc : va_Qi (fun (r : Int32) (u : Unit) => r = r0) (fun u t => va_P (dC, dI) vwCl [(aX, .inr (2, [.int zX.1, .int zX.2, .ref aX_clashing, .ref aX_between, .ref aX_leastTimes, .ref aX_mostTimes, .ref aX_phases, .ref aX_members, .ref aX_shortest, .ref aX_longestTimes])), (aX_members, .inl (cyI, 15, .inl zX_members))] t.heap ∧ va_K (dC, dI) vwCl [(cyI, .int), (cyJ, .long), (cyZ, .boolean)] t ∧ va_D A [(aX, .inr (2, [.int zX.1, .int zX.2, .ref aX_clashing, .ref aX_between, .ref aX_leastTimes, .ref aX_mostTimes, .ref aX_phases, .ref aX_members, .ref aX_shortest, .ref aX_longestTimes])), (aX_members, .inl (cyI, 15, .inl zX_members))]) A = Qc at hret ⊢
  have hl := lv_entry ([.ref aX, .int p1]) (n := 2) (Nat.le_of_ble_eq_true rfl)
  rw [hargs, lg_entry_eq, ← hargs]
  generalize (lg_sl ([.ref aX, .int p1]) ++ List.replicate (2 - (lg_sl ([.ref aX, .int p1])).length) Slot.unset).toArray = ls at hl ⊢
  have hl : lv_has ls 2 [(0, .ref aX), (1, .int p1)] := hl
  have h : (if p1 < 0 then (some 0) else (if 15 ≤ p1 then (some 0) else (gk_ck p1 15 ((some (zX_members p1.toNatClampNeg)))))) = some r0 := h
  have hH : True := trivial
  refine lv_iload_n hx hb dX0_groupsIn_0 rfl (lv_at hl 1 rfl) ?_
  refine lv_if_lt (tgt := 19) hx hb dX0_groupsIn_1 (by decide) (fun c_1 => ?_) (fun c_1 => ?_)
  · have h := gk_mt c_1 h
    refine lv_iconst (v := 0) hx hb dX0_groupsIn_19 (by decide) ?_
    exact W.iret hx hb hr (hret _ _ 0 (()) (Option.some.inj h) hP hD hS) hS.2.2 dX0_groupsIn_20
  · have h := gk_mf c_1 h
    refine lv_iload_n hx hb dX0_groupsIn_4 rfl (lv_at hl 1 rfl) ?_
    refine lv_bipush (v := 15) hx hb dX0_groupsIn_5 (by decide) ?_
    refine lv_icmp_ge (tgt := 19) hx hb dX0_groupsIn_7 (by decide) (fun c_2 => ?_) (fun c_2 => ?_)
    · have h := gk_mt c_2 h
      refine lv_iconst (v := 0) hx hb dX0_groupsIn_19 (by decide) ?_
      exact W.iret hx hb hr (hret _ _ 0 (()) (Option.some.inj h) hP hD hS) hS.2.2 dX0_groupsIn_20
    · have h := gk_mf c_2 h
      refine lv_aload_n hx hb dX0_groupsIn_10 rfl (lv_at hl 0 rfl) ?_
      refine va_get (D := (dC, dI)) (ci := 2) (v := .ref aX_members) (C := RX0) (T := TX0) (N := 10) hx hb hts hinX0 hown hK hP 0 rfl rfl 7 (by decide) hf_27 (fun _ h9 => h9) rfl dX0_groupsIn_11 ?_
      refine lv_iload_n hx hb dX0_groupsIn_14 rfl (lv_at hl 1 rfl) ?_
      obtain ⟨c_3, h⟩ := gk_ck_s h
      refine va_iald hx hb hK hP 1 0 rfl rfl c_3 dX0_groupsIn_15 ?_
      refine lv_goto (tgt := 20) hx hb dX0_groupsIn_16 (by decide) ?_
      exact W.iret hx hb hr (hret _ _ (zX_members p1.toNatClampNeg) (()) (Option.some.inj h) hP hD hS) hS.2.2 dX0_groupsIn_20
