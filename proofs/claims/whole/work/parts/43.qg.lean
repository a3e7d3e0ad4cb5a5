/-! a second of the reference's machine -/
theorem qN_upd {s : Nat → Nat} {now : Nat → Int32} (hn : qN s now) (k v : Nat) : qN (sU s k v) (upd now k (nI v)) := fun i hi => by
  unfold upd sU
  by_cases h : i = k
  · rw [if_pos h, if_pos h]
  · rw [if_neg h, if_neg h]; exact hn i hi
theorem pq_go {F : Nat} {X : Nat → Nat → Nat} {zQ : Int32 × Int32 × Int32 × Int32 × Int32 × Int32 × Int32 × Int32 × Int32 × Int32 × Int32} {kl be le mo ph me sh lo : Nat → Int32} (hF : 2000 ≤ F) (hX : xG X) (hq : qX X zQ kl be le mo ph me sh lo) {s : Nat → Nat} {now kept : Nat → Int32} {e : Nat} (hs : sV X s) (he : e ≤ X 8 0 + X 8 1) (hn : qN s now) : ∃ now' kept', m_X7_go F (nI e) zQ kl be le mo ph me sh lo now kept = some (nI (sFault X e s), (now', kept')) ∧ qN (sGo X e s) now' := by
  have hN := hX.2.1
  have hP := hX.2.2.1
  have hsh := sV_hear hX hs he
  have hsg := sV_grow hsh
  have hgv := sV_go hX hs he
  have hlit : sLit X s < 64 := Nat.lt_of_lt_of_le (lit_lt hX hs.1.1 hs.1.2) (x_64 hX)
  unfold m_X7_go
  -- what was is kept
  obtain ⟨n0, k0, e0, -⟩ := lpA (L := fun n k a => m_X7_go_L2 F zQ kl be le mo ph me sh lo n (nI e) (nI k) now a) (N := 14) (Inv := fun _ _ => True) (by
    intro n k a hk _
    refine ⟨upd a k (now k), ?_, trivial⟩
    show m_X7_go_L2 F zQ kl be le mo ph me sh lo (n + 1) (nI e) (nI k) now a = _
    rw [u_X7_go_L2]
    simp (disch := omega) only [pl_0, pl_1, pl_2, pl_3, pl_4, pl_5, pl_6, pl_7, pl_8, pl_9, pl_10, pl_11, pl_12, pl_13, pl_14, pl_15, pl_31, nI_add, pk_mul, pn_le, pn_lt, pn_eq, nI_clamp, pn_ck, pn_bd, pn_b0, pn_b1, pn_or, pn_andn, pm_andn, Nat.not_lt_zero, Nat.zero_le, ↓reduceIte, show ¬ 14 ≤ k by omega]) 14 F 0 kept (by omega) (by omega) trivial
  have e0 : m_X7_go_L2 F zQ kl be le mo ph me sh lo F (nI e) 0 now kept = m_X7_go_L2 F zQ kl be le mo ph me sh lo (n0 + 1) (nI e) (nI 14) now k0 := e0
  rw [e0, u_X7_go_L2, if_pos (show (14 : Int32) ≤ nI 14 by decide), pq_shown hF hX hq hs.1 hs.2.2.2.1 hs.2.2.1 hn, pn_bd]
  -- the event is heard
  have hh : ∃ now1, (if nI e ≤ 0 then m_X7_go_J68 F zQ kl be le mo ph me sh lo (nI e) (nI (sLit X s)) now k0 else (if zQ.2.1 < nI e then m_X7_go_J68 F zQ kl be le mo ph me sh lo (nI e) (nI (sLit X s)) now k0 else (if (((nI (sLit X s)) >>> ((nI e - 1) &&& 31)) &&& 1) = 0 then (gk_ck 7 14 ((gk_ck 7 14 (m_X7_go_J68 F zQ kl be le mo ph me sh lo (nI e) (nI (sLit X s)) (upd now (7 : Int32).toNatClampNeg ((now (7 : Int32).toNatClampNeg) ||| (1 <<< ((nI e - 1) &&& 31)))) k0)))) else m_X7_go_J68 F zQ kl be le mo ph me sh lo (nI e) (nI (sLit X s)) now k0))) = m_X7_go_L93 F zQ kl be le mo ph me sh lo F (nI (sLit X s)) (nI 0) now1 k0 ∧ qN (sHear X e s) now1 := by
    unfold m_X7_go_J68 m_X7_go_J91 sHear
    rw [hq.1]
    by_cases h0 : e = 0
    · subst h0
      refine ⟨now, ?_, hn⟩
      rw [if_pos (by decide), if_pos (nI_le (by omega) (by omega))]; rfl
    · rw [if_neg h0, if_neg (nI_nle (by omega) (by omega))]
      obtain ⟨g, rfl⟩ : ∃ g, e = g + 1 := ⟨e - 1, by omega⟩
      have e0 : nI (g + 1) - 1 = nI g := nI_pred g
      rw [e0]
      by_cases h1 : g + 1 ≤ X 8 0
      · rw [if_pos h1, if_neg (nI_nlt h1 (by omega)), Nat.add_sub_cancel]
        cases hb : (sLit X s).testBit g
        · refine ⟨upd now 7 (nI (s 7 ||| 2 ^ g)), ?_, qN_upd hn 7 _⟩
          simp (disch := omega) only [pl_0, pl_1, pl_7, pl_31, pn_b0, hb, if_true, pn_ck, nI_clamp, hn 7 (by omega), pn_sl, pn_or, pn_le, h1]
        · refine ⟨now, ?_, hn⟩
          simp (disch := omega) only [pl_0, pl_1, pl_7, pl_31, pn_b0, hb, Bool.true_eq_false, if_false, pn_le, h1, if_true]
      · rw [if_neg h1, if_pos (nI_lt (by omega) (by omega)), if_neg (nI_ge (by omega) (by omega)), pk_sub (by omega)]
        refine ⟨upd now 6 (nI (g + 1 - 1 - X 8 0)), ?_, qN_upd hn 6 _⟩
        rw [pl_6, pn_ck (by omega) (by omega), nI_clamp (by omega), Nat.add_sub_cancel]; rfl
  obtain ⟨now1, e1, hn1⟩ := hh
  refine (show _ from ?_ : ∃ now' kept', _ = some (nI (sFault X e s), (now', kept')) ∧ qN (sGo X e s) now')
  rw [e1]
  have hb : sLit X s = sLit X (sHear X e s) := lit_same (fun j hj _ => (sHear_ne X e s (by omega) (by omega)).symm)
  -- the ages grow
  obtain ⟨n2, a2, e2, hI, hI2⟩ := lpA (L := fun n k (a : (Nat → Int32) × (Nat → Int32)) => m_X7_go_L93 F zQ kl be le mo ph me sh lo n (nI (sLit X s)) (nI k) a.1 a.2) (N := X 8 0)
    (Inv := fun k a => (∀ i, i < 14 → a.1 i = nI (if 8 ≤ i ∧ i < 8 + k then sUp (sLit X s) (i - 8) (sHear X e s i) else sHear X e s i)) ∧ ∀ g, g < k → a.2 (8 + g) = nI (sUp (sLit X s) g (sHear X e s (8 + g)))) (by
    intro n k a hk hi
    obtain ⟨a, c⟩ := a
    obtain ⟨hi, hi2⟩ := hi
    have hi : ∀ i, i < 14 → a i = nI (if 8 ≤ i ∧ i < 8 + k then sUp (sLit X s) (i - 8) (sHear X e s i) else sHear X e s i) := hi
    have hi2 : ∀ g, g < k → c (8 + g) = nI (sUp (sLit X s) g (sHear X e s (8 + g))) := hi2
    have hak : a (8 + k) = nI (sHear X e s (8 + k)) := by rw [hi (8 + k) (by omega), if_neg (by omega)]
    have hvk := hsh.2.2.2.2.2.2.1 k (by omega)
    refine ⟨(upd a (8 + k) (nI (sUp (sLit X s) k (sHear X e s (8 + k)))), upd c (8 + k) (nI (sUp (sLit X s) k (sHear X e s (8 + k))))), ?_, fun i hi3 => ?_, fun g hg => ?_⟩
    · show m_X7_go_L93 F zQ kl be le mo ph me sh lo (n + 1) (nI (sLit X s)) (nI k) a c = m_X7_go_L93 F zQ kl be le mo ph me sh lo n (nI (sLit X s)) (nI (k + 1)) (upd a (8 + k) (nI (sUp (sLit X s) k (sHear X e s (8 + k))))) (upd c (8 + k) (nI (sUp (sLit X s) k (sHear X e s (8 + k)))))
      rw [u_X7_go_L93, hq.1]
      unfold sUp
      cases h1 : (sLit X s).testBit k
      · by_cases h2 : sHear X e s (8 + k) < 15
        · simp (disch := omega) only [pl_0, pl_1, pl_2, pl_3, pl_4, pl_5, pl_6, pl_7, pl_8, pl_9, pl_10, pl_11, pl_12, pl_13, pl_14, pl_15, pl_31, nI_add, pk_mul, pn_le, pn_lt, pn_eq, nI_clamp, pn_ck, pn_bd, pn_b0, pn_b1, pn_or, pn_andn, pm_andn, Nat.not_lt_zero, Nat.zero_le, ↓reduceIte, m_X7_go_J117, m_X7_go_J157, show ¬ X 8 0 ≤ k by omega, h1, Bool.false_eq_true, hak, show ¬ 15 ≤ sHear X e s (8 + k) by omega, h2, upd_same]
        · simp (disch := omega) only [pl_0, pl_1, pl_2, pl_3, pl_4, pl_5, pl_6, pl_7, pl_8, pl_9, pl_10, pl_11, pl_12, pl_13, pl_14, pl_15, pl_31, nI_add, pk_mul, pn_le, pn_lt, pn_eq, nI_clamp, pn_ck, pn_bd, pn_b0, pn_b1, pn_or, pn_andn, pm_andn, Nat.not_lt_zero, Nat.zero_le, ↓reduceIte, m_X7_go_J117, m_X7_go_J157, show ¬ X 8 0 ≤ k by omega, h1, Bool.false_eq_true, hak, show 15 ≤ sHear X e s (8 + k) by omega, h2, upd_same]
      · by_cases h2 : sHear X e s (8 + k) < 31
        · simp (disch := omega) only [pl_0, pl_1, pl_2, pl_3, pl_4, pl_5, pl_6, pl_7, pl_8, pl_9, pl_10, pl_11, pl_12, pl_13, pl_14, pl_15, pl_31, nI_add, pk_mul, pn_le, pn_lt, pn_eq, nI_clamp, pn_ck, pn_bd, pn_b0, pn_b1, pn_or, pn_andn, pm_andn, Nat.not_lt_zero, Nat.zero_le, ↓reduceIte, m_X7_go_J117, m_X7_go_J157, show ¬ X 8 0 ≤ k by omega, h1, hak, show ¬ 31 ≤ sHear X e s (8 + k) by omega, h2, upd_same]
        · simp (disch := omega) only [pl_0, pl_1, pl_2, pl_3, pl_4, pl_5, pl_6, pl_7, pl_8, pl_9, pl_10, pl_11, pl_12, pl_13, pl_14, pl_15, pl_31, nI_add, pk_mul, pn_le, pn_lt, pn_eq, nI_clamp, pn_ck, pn_bd, pn_b0, pn_b1, pn_or, pn_andn, pm_andn, Nat.not_lt_zero, Nat.zero_le, ↓reduceIte, m_X7_go_J117, m_X7_go_J157, show ¬ X 8 0 ≤ k by omega, h1, hak, show 31 ≤ sHear X e s (8 + k) by omega, h2, upd_same]
    · show upd a (8 + k) _ i = _
      by_cases h : i = 8 + k
      · subst h; rw [upd_same, if_pos ⟨by omega, by omega⟩, show 8 + k - 8 = k by omega]
      · rw [upd_ne h, hi i hi3]
        by_cases h3 : 8 ≤ i ∧ i < 8 + k
        · rw [if_pos h3, if_pos (by omega)]
        · rw [if_neg h3, if_neg (by omega)]
    · show upd c (8 + k) _ (8 + g) = _
      by_cases h : g = k
      · subst h; rw [upd_same]
      · rw [upd_ne (by omega), hi2 g (by omega)]) (X 8 0) F 0 (now1, k0) (by omega) (by omega) ⟨fun i hi => (hn1 i hi).trans (by rw [if_neg (by omega)]), fun g hg => by omega⟩
  obtain ⟨now2, kept2⟩ := a2
  have e2 : m_X7_go_L93 F zQ kl be le mo ph me sh lo F (nI (sLit X s)) (nI 0) now1 k0 = m_X7_go_L93 F zQ kl be le mo ph me sh lo (n2 + 1) (nI (sLit X s)) (nI (X 8 0)) now2 kept2 := e2
  have hn2 : qN (sGrow X (sHear X e s)) now2 := fun i hi => by
    refine (hI i hi).trans ?_
    unfold sGrow; rw [← hb]
  have hk2 : ∀ g, g < X 8 0 → kept2 (8 + g) = nI (sGrow X (sHear X e s) (8 + g)) := fun g hg => by
    refine (hI2 g hg).trans ?_
    unfold sGrow; rw [← hb, if_pos ⟨by omega, by omega⟩, show 8 + g - 8 = g by omega]
  have hb2 : sLit X s = sLit X (sGrow X (sHear X e s)) := lit_same (fun j hj _ => by rw [sGrow_lo X _ (by omega), sHear_ne X e s (by omega) (by omega)])
  have hgo : sGo X e s = sTick X (sGrow X (sHear X e s)) := rfl
  have hfl : sFault X e s = sFl X (sLit X s) (sGrow X (sHear X e s)) (sGo X e s) := rfl
  rw [hfl, e2]
  rw [hgo] at hgv ⊢
  rw [hb2] at hlit ⊢
  clear hI hI2 e2 e1 hb hfl hgo hn1 e0 hb2
  generalize hs1 : sGrow X (sHear X e s) = s1 at *
  clear hs1
  have hend : ∀ (s2 : Nat → Nat) (nw : Nat → Int32), sTick X s1 = s2 → qN s2 nw → ∃ now' kept', m_X7_go_J344 F zQ kl be le mo ph me sh lo (nI (sLit X s1)) nw kept2 = some (nI (sFl X (sLit X s1) s1 (sTick X s1)), (now', kept')) ∧ qN (sTick X s1) now' := by
    intro s2 nw h2 hn2
    rw [h2] at hgv ⊢
    unfold m_X7_go_J344
    rw [pq_shown hF hX hq hgv.1 hgv.2.2.2.1 hgv.2.2.1 hn2, pn_bd, pq_fault hF hX hq hlit (Nat.lt_of_lt_of_le (lit_lt hX hgv.1.1 hgv.1.2) (x_64 hX)) (Nat.lt_of_lt_of_le hgv.2.2.2.2.2.1 (x_64 hX)) hgv.2.2.2.2.2.2.1 hsg.2.2.2.2.2.2.1 hn2 hk2, pn_bd]
    exact ⟨_, _, rfl, hn2⟩
  obtain ⟨g1, g2, g3, g4, g5, g6, g7, g8, g9⟩ := id hsg
  rw [u_X7_go_L93, hq.1]
  by_cases h3 : s1 3 = 0
  · have h15 := x_pl hX g1.1 g1.2
    obtain ⟨m5, m6, m7⟩ := hq.2.2.2.2.2.2.2 (s1 0) g1.1 (s1 1) g1.2
    obtain ⟨-, b6, b7⟩ := (hX.2.2.2.2.2.2 (s1 0) g1.1).2.2 (s1 1) g1.2
    have hv1 := sV_t1 hsg
    have hT : sTick X s1 = sRun X (sT1 s1) := by unfold sTick; rw [if_pos h3]; rfl
    have h764 : s1 7 < 64 := Nat.lt_of_lt_of_le g6 (x_64 hX)
    have hand : andn (s1 7) (X 5 (5 * s1 0 + s1 1)) < 64 := andn_lt (n := 6) h764
    have htt := hv1.2.1
    -- the phase's end
    have h303 : ∀ nw : Nat → Int32, qN (sT1 s1) nw → ∀ y0 : Nat, y0 ≤ 1 → (y0 = 1 ↔ sAsk X (sT1 s1) = true) → ∃ now' kept', m_X7_go_J303 F zQ kl be le mo ph me sh lo (nI (sLit X s1)) (nI (5 * s1 0 + s1 1)) (nI y0) nw kept2 = some (nI (sFl X (sLit X s1) s1 (sTick X s1)), (now', kept')) ∧ qN (sTick X s1) now' := by
      intro nw hnw y0 hy hya
      have h340 : sOver X (sT1 s1) = true → ∃ now' kept', m_X7_go_J340 F zQ kl be le mo ph me sh lo (nI (sLit X s1)) nw kept2 = some (nI (sFl X (sLit X s1) s1 (sTick X s1)), (now', kept')) ∧ qN (sTick X s1) now' := fun ho => by
        obtain ⟨nw2, e3, hn3⟩ := pq_end hF hX hq hv1 hnw
        unfold m_X7_go_J340
        rw [e3, pn_bd]
        exact hend _ nw2 (by rw [hT]; unfold sRun; rw [ho]; rfl) hn3
      have h344 : sOver X (sT1 s1) = false → ∃ now' kept', m_X7_go_J344 F zQ kl be le mo ph me sh lo (nI (sLit X s1)) nw kept2 = some (nI (sFl X (sLit X s1) s1 (sTick X s1)), (now', kept')) ∧ qN (sTick X s1) now' := fun ho => hend _ nw (by rw [hT]; unfold sRun; rw [ho]; rfl) hnw
      have h2e := hnw 2 (by omega)
      unfold m_X7_go_J303
      have hov : sOver X (sT1 s1) = (decide (X 7 (5 * s1 0 + s1 1) ≤ sT1 s1 2) || (sAsk X (sT1 s1) && decide (X 6 (5 * s1 0 + s1 1) ≤ sT1 s1 2))) := rfl
      simp (disch := omega) only [pl_0, pl_1, pl_2, pl_3, pl_4, pl_5, pl_6, pl_7, pl_8, pl_9, pl_10, pl_11, pl_12, pl_13, pl_14, pl_15, pl_31, nI_add, pk_mul, pn_le, pn_lt, pn_eq, nI_clamp, pn_ck, pn_bd, pn_b0, pn_b1, pn_or, pn_andn, pm_andn, Nat.not_lt_zero, Nat.zero_le, ↓reduceIte, h2e, m6, m7]
      by_cases c1 : X 7 (5 * s1 0 + s1 1) ≤ sT1 s1 2
      · simp only [c1, ↓reduceIte]
        exact h340 (by rw [hov, decide_eq_true c1]; rfl)
      · by_cases c2 : sT1 s1 2 < X 6 (5 * s1 0 + s1 1)
        · simp only [c1, c2, ↓reduceIte]
          exact h344 (by rw [hov, decide_eq_false c1, decide_eq_false (by omega)]; cases sAsk X (sT1 s1) <;> rfl)
        · by_cases c3 : y0 = 0
          · simp only [c1, c2, c3, ↓reduceIte]
            have hno : sAsk X (sT1 s1) = false := by
              cases h : sAsk X (sT1 s1)
              · rfl
              · have := hya.mpr h; omega
            exact h344 (by rw [hov, decide_eq_false c1, hno]; rfl)
          · simp only [c1, c2, c3, ↓reduceIte]
            exact h340 (by rw [hov, decide_eq_true (show X 6 (5 * s1 0 + s1 1) ≤ sT1 s1 2 by omega), hya.mp (by omega)]; cases decide (X 7 (5 * s1 0 + s1 1) ≤ sT1 s1 2) <;> rfl)
    have hask : sAsk X (sT1 s1) = (s1 6 != s1 0 || andn (s1 7) (X 5 (5 * s1 0 + s1 1)) != 0) := rfl
    have h262 : ∀ t : Nat, t = sT1 s1 2 → ∃ now' kept', m_X7_go_J262 F zQ kl be le mo ph me sh lo (nI (sLit X s1)) (nI (5 * s1 0 + s1 1)) (nI t) (nI 2) now2 kept2 = some (nI (sFl X (sLit X s1) s1 (sTick X s1)), (now', kept')) ∧ qN (sTick X s1) now' := by
      intro t ht
      have hnw : qN (sT1 s1) (upd now2 2 (nI t)) := by rw [ht]; exact qN_upd hn2 2 _
      have q7 := hnw 7 (by omega)
      have q6 := hnw 6 (by omega)
      have q0 := hnw 0 (by omega)
      have q7 : upd now2 2 (nI t) 7 = nI (s1 7) := q7
      have q6 : upd now2 2 (nI t) 6 = nI (s1 6) := q6
      have q0 : upd now2 2 (nI t) 0 = nI (s1 0) := q0
      unfold m_X7_go_J262 m_X7_go_J298
      simp (disch := omega) only [pl_0, pl_1, pl_2, pl_3, pl_4, pl_5, pl_6, pl_7, pl_8, pl_9, pl_10, pl_11, pl_12, pl_13, pl_14, pl_15, pl_31, nI_add, pk_mul, pn_le, pn_lt, pn_eq, nI_clamp, pn_ck, pn_bd, pn_b0, pn_b1, pn_or, pn_andn, pm_andn, Nat.not_lt_zero, Nat.zero_le, ↓reduceIte, q7, q6, q0, m5]
      by_cases c1 : andn (s1 7) (X 5 (5 * s1 0 + s1 1)) = 0
      · by_cases c2 : s1 6 = s1 0
        · simp only [c1, c2, ↓reduceIte]
          refine h303 _ hnw 0 (by omega) ⟨fun h => by omega, fun h => ?_⟩
          rw [hask, c1, c2] at h; simp at h
        · simp only [c1, c2, ↓reduceIte]
          exact h303 _ hnw 1 (by omega) ⟨fun _ => by rw [hask]; simp [c2], fun _ => rfl⟩
      · simp only [c1, ↓reduceIte]
        exact h303 _ hnw 1 (by omega) ⟨fun _ => by rw [hask]; simp [c1], fun _ => rfl⟩
    have q3 := hn2 3 (by omega)
    have q2 := hn2 2 (by omega)
    have q0 := hn2 0 (by omega)
    have q1 := hn2 1 (by omega)
    simp (disch := omega) only [pl_0, pl_1, pl_2, pl_3, pl_4, pl_5, pl_6, pl_7, pl_8, pl_9, pl_10, pl_11, pl_12, pl_13, pl_14, pl_15, pl_31, nI_add, pk_mul, pn_le, pn_lt, pn_eq, nI_clamp, pn_ck, pn_bd, pn_b0, pn_b1, pn_or, pn_andn, pm_andn, Nat.not_lt_zero, Nat.zero_le, ↓reduceIte, Nat.le_refl, q3, h3, q0, q1, q2]
    by_cases c1 : 31 ≤ s1 2
    · simp only [c1, ↓reduceIte]
      exact h262 31 (by show _ = (if s1 2 < 31 then s1 2 + 1 else 31); rw [if_neg (by omega)])
    · simp only [c1, ↓reduceIte]
      exact h262 (s1 2 + 1) (by show _ = (if s1 2 < 31 then s1 2 + 1 else 31); rw [if_pos (by omega)])
  · have q3 := hn2 3 (by omega)
    have hnw : qN (sU s1 3 (s1 3 - 1)) (upd now2 3 (nI (s1 3 - 1))) := qN_upd hn2 3 _
    simp (disch := omega) only [pl_0, pl_1, pl_2, pl_3, pl_4, pl_5, pl_6, pl_7, pl_8, pl_9, pl_10, pl_11, pl_12, pl_13, pl_14, pl_15, pl_31, nI_add, pk_mul, pn_le, pn_lt, pn_eq, nI_clamp, pn_ck, pn_bd, pn_b0, pn_b1, pn_or, pn_andn, pm_andn, Nat.not_lt_zero, Nat.zero_le, ↓reduceIte, Nat.le_refl, q3, show ¬ s1 3 ≤ 0 by omega, pk_sub, upd_same]
    by_cases h31 : s1 3 = 1
    · have hT : sTick X s1 = sEnter X (s1 4) (s1 5) s1 := by unfold sTick; rw [if_neg h3, if_pos h31]
      obtain ⟨nw, e3, hn3⟩ := pq_comes hF hX hq (s := sU s1 3 (s1 3 - 1)) g1 g4 hnw
      simp only [show s1 3 - 1 = 0 by omega, ↓reduceIte] at e3 ⊢
      rw [e3, pn_bd]
      refine hend _ nw hT (fun i hi => ?_)
      rw [hn3 i hi]
      congr 1
      show sEnter X (s1 4) (s1 5) _ i = _
      unfold sEnter sU
      by_cases hj : i = 3
      · subst hj; rfl
      · simp only [hj, if_false, Nat.reduceEqDiff]
    · have hT : sTick X s1 = sU s1 3 (s1 3 - 1) := by unfold sTick; rw [if_neg h3, if_neg h31]
      simp only [show ¬ s1 3 - 1 = 0 by omega, ↓reduceIte]
      exact hend _ _ hT hnw
