/-! a second of the class's machine -/
/-- the class's machine holds the state s -/
def cR (s : Nat → Nat) (zM : Int32 × Int32 × Int32 × Int32 × Int32 × Int32 × Int32 × Int32) (ag : Nat → Int32) : Prop := (∃ bg cs : Int32, zM = (nI (5 * s 0 + s 1), nI (s 2), nI (s 3), nI (5 * s 4 + s 5), nI (s 6), nI (s 7), bg, cs)) ∧ ∀ g, g < 6 → ag g = nI (s (8 + g))
theorem sFl_of {X : Nat → Nat → Nat} (hX : xG X) {b bg : Nat} {c3 : Bool} {k s : Nat → Nat} (h2 : ∀ g, g < X 8 0 → (sLit X s).testBit g = true → bg.testBit g = !b.testBit g) (h3 : c3 = sF3 X b (sLit X s) k) : (if nex (fT X (sLit X s)) (X 8 0) then 1 else if nex (fS X (sLit X s) bg s) (X 8 0) then 2 else if c3 then 3 else if nex (fO X (sLit X s) s) (X 8 0) then 4 else 0) = sFl X b k s := by
  have hN := hX.2.1
  have e1 : nex (fT X (sLit X s)) (X 8 0) = sF1 X (sLit X s) := by
    unfold sF1
    refine nex_congr (fun g hg => ?_)
    unfold fT
    cases hb : (sLit X s).testBit g
    · rw [Bool.false_and]
      cases hx : nex (fun h => X 0 (6 * g + h) == 1 && false && (sLit X s).testBit h) (X 8 0)
      · rfl
      · obtain ⟨k, _, hk⟩ := nex_true.mp hx
        simp at hk
    · rw [Bool.true_and]
      exact nex_congr (fun h hh => by rw [Bool.and_true])
  have e2 : nex (fS X (sLit X s) bg s) (X 8 0) = sF2 X b (sLit X s) s := by
    unfold sF2
    refine nex_congr (fun g hg => ?_)
    unfold fS
    cases hb : (sLit X s).testBit g
    · simp only [Bool.false_and]
    · rw [h2 g hg hb]
      simp only [Bool.true_and]
      congr 1
      exact nex_congr (fun h hh => by rw [hX.2.2.2.2.1 g h (by omega) (by omega)])
  have e4 : nex (fO X (sLit X s) s) (X 8 0) = sF4 X (sLit X s) s := by
    unfold sF4
    refine nex_congr (fun g hg => ?_)
    unfold fO
    rw [Bool.and_assoc]
  unfold sFl
  rw [e1, e2, e4, h3]
theorem lit_same {X : Nat → Nat → Nat} {s t : Nat → Nat} (h : ∀ j, j < 6 → j ≠ 2 → s j = t j) : sLit X s = sLit X t := by
  unfold sLit; rw [h 0 (by omega) (by omega), h 1 (by omega) (by omega), h 3 (by omega) (by omega), h 4 (by omega) (by omega), h 5 (by omega) (by omega)]
theorem sHear_ne (X : Nat → Nat → Nat) (e : Nat) (s : Nat → Nat) {j : Nat} (h6 : j ≠ 6) (h7 : j ≠ 7) : sHear X e s j = s j := by
  unfold sHear sU
  repeat' split
  all_goals first | rfl | exact if_neg h7 | exact if_neg h6
theorem nex_none {c : Nat → Bool} {n : Nat} (h : ∀ k, k < n → c k = false) : nex c n = false := by
  cases hx : nex c n
  · rfl
  · obtain ⟨k, hk, h2⟩ := nex_true.mp hx
    rw [h k hk] at h2; exact absurd h2 (by decide)
theorem pc_step {F : Nat} {X : Nat → Nat → Nat} {zX : Int32 × Int32} {cl be le mo ph me sh lo : Nat → Int32} (hF : 2000 ≤ F) (hX : xG X) (hc : cX X zX cl be le mo ph me sh lo) {s : Nat → Nat} {zM : Int32 × Int32 × Int32 × Int32 × Int32 × Int32 × Int32 × Int32} {ag : Nat → Int32} {e : Nat} (hs : sV X s) (he : e ≤ X 8 0 + X 8 1) (hR : cR s zM ag) : ∃ zM' ag', m_X2_step F (nI e) zM zX cl be le mo ph me sh lo ag = some (nI (sFault X e s), (zM', ag')) ∧ cR (sGo X e s) zM' ag' := by
  have hN := hX.2.1
  obtain ⟨⟨bg0, cs0, rfl⟩, ha⟩ := hR
  have hsh := sV_hear hX hs he
  have hsg := sV_grow hsh
  unfold m_X2_step
  show ∃ zM' ag', gk_bd (m_X2_hear F (nI e) (cM s 0 0) zX me) _ = _ ∧ _
  rw [pc_hear hF hX hc hs he, pn_bd]
  obtain ⟨ag1, e1, ha1⟩ := pc_grow hF hX hc (s := sHear X e s) (bg := 0) (cs := 0) (ag := ag) hsh.1 hsh.2.2.2.1 hsh.2.2.1 hsh.2.2.2.2.2.2.1 (fun g hg => by rw [ha g hg, sHear_ne X e s (by omega) (by omega)])
  rw [e1, pn_bd]
  have hlo : cM (sHear X e s) 0 0 = cM (sGrow X (sHear X e s)) 0 0 := rfl
  have hb : sLit X s = sLit X (sGrow X (sHear X e s)) := lit_same (fun j hj _ => by rw [sGrow_lo X _ (by omega), sHear_ne X e s (by omega) (by omega)])
  have hgo : sGo X e s = sTick X (sGrow X (sHear X e s)) := rfl
  have hfl : sFault X e s = sFl X (sLit X s) (sGrow X (sHear X e s)) (sGo X e s) := rfl
  have hgv := sV_go hX hs he
  rw [hfl, hlo]
  rw [hgo] at hgv ⊢
  rw [hb]
  generalize hs1 : sGrow X (sHear X e s) = s1 at *
  clear hs1
  -- what the end of a second does
  have hend : ∀ (s2 : Nat → Nat) (bg : Nat) (c3 : Bool) (ag2 : Nat → Int32), sTick X s1 = s2 → (∀ g, g < 6 → ag2 g = nI (s2 (8 + g))) → bg < 64 → (∀ g, g < X 8 0 → (sLit X s2).testBit g = true → bg.testBit g = !(sLit X s1).testBit g) → c3 = sF3 X (sLit X s1) (sLit X s2) s1 → ∃ zM' ag', m_X2_step_J87 F zX cl be le mo ph me sh lo (cM s2 bg (b2n c3)) ag2 = some (nI (sFl X (sLit X s1) s1 (sTick X s1)), (zM', ag')) ∧ cR (sTick X s1) zM' ag' := by
    intro s2 bg c3 ag2 hs2 ha2 hbg h2 h3
    rw [hs2] at hgv ⊢
    unfold m_X2_step_J87
    rw [pc_fault hF hX hc hgv.1 hgv.2.2.2.1 hgv.2.2.1 hgv.2.2.2.2.2.1 hbg hgv.2.2.2.2.2.2.1 ha2, pn_bd, sFl_of hX h2 h3]
    exact ⟨_, _, rfl, ⟨_, _, rfl⟩, ha2⟩
  have hno : ∀ b : Nat, sF3 X b b s1 = false := fun b => nex_none (fun k _ => by cases b.testBit k <;> rfl)
  have hz : ∀ b : Nat, ∀ g, g < X 8 0 → b.testBit g = true → (0 : Nat).testBit g = !b.testBit g := fun b g _ hb => by rw [hb, Nat.zero_testBit]; rfl
  obtain ⟨g1, g2, g3, g4, g5, g6, g7, g8, g9⟩ := id hsg
  by_cases h3 : s1 3 = 0
  · show ∃ zM' ag', (if nI (s1 3) ≤ 0 then _ else _) = _ ∧ _
    rw [if_pos (show nI (s1 3) ≤ 0 by rw [h3]; decide)]
    have ht : (if (31 : Int32) < nI (s1 2) + 1 then (31 : Int32) else nI (s1 2) + 1) = nI (sT1 s1 2) := by
      have := pn_up (v := s1 2) (lim := 31) g2 (by omega)
      exact this
    show ∃ zM' ag', gk_bd (m_X2_following F (nI (5 * s1 0 + s1 1), (if (31 : Int32) < nI (s1 2) + 1 then (31 : Int32) else nI (s1 2) + 1), nI (s1 3), nI (5 * s1 4 + s1 5), nI (s1 6), nI (s1 7), nI 0, nI 0) zX ph me sh lo) (fun v5 => if v5 = nI (5 * s1 0 + s1 1) then m_X2_step_J87 F zX cl be le mo ph me sh lo (nI (5 * s1 0 + s1 1), (if (31 : Int32) < nI (s1 2) + 1 then (31 : Int32) else nI (s1 2) + 1), nI (s1 3), nI (5 * s1 4 + s1 5), nI (s1 6), nI (s1 7), nI 0, nI 0) ag1 else gk_bd (m_X2_leave F v5 (nI (5 * s1 0 + s1 1), (if (31 : Int32) < nI (s1 2) + 1 then (31 : Int32) else nI (s1 2) + 1), nI (s1 3), nI (5 * s1 4 + s1 5), nI (s1 6), nI (s1 7), nI 0, nI 0) zX be le me ag1) (fun v7 => m_X2_step_J87 F zX cl be le mo ph me sh lo v7.1 v7.2)) = _ ∧ _
    rw [ht]
    have hT : sTick X s1 = sRun X (sT1 s1) := by unfold sTick; rw [if_pos h3]; rfl
    have hv1 := sV_t1 hsg
    have hcM : ((nI (5 * s1 0 + s1 1), nI (sT1 s1 2), nI (s1 3), nI (5 * s1 4 + s1 5), nI (s1 6), nI (s1 7), nI 0, nI 0) : Int32 × Int32 × Int32 × Int32 × Int32 × Int32 × Int32 × Int32) = cM (sT1 s1) 0 0 := rfl
    have ha2 : ∀ g, g < 6 → ag1 g = nI (sT1 s1 (8 + g)) := fun g hg => by
      rw [ha1 g hg]; show _ = nI (if 8 + g = 2 then _ else _); rw [if_neg (by omega)]
    rw [hcM, pc_next hF hX hc hv1 h3, pn_bd]
    have hl1 : sLit X (sT1 s1) = sLit X s1 := lit_same (fun j hj hj2 => by show (if j = 2 then _ else _) = _; rw [if_neg hj2])
    have h15 := x_pl hX g1.1 g1.2
    have hn15 := x_pl hX g5 (nxF_lt hX (s := sT1 s1) g1.1 g5)
    have hF5 := (hX.2.2.2.2.2.2 (s1 0) g1.1).2.1
    have hG5 := (hX.2.2.2.2.2.2 (s1 6) g5).2.1
    have hnf := nxF_lt hX (s := sT1 s1) g1.1 g5
    have hnf : sNxF X (sT1 s1) < X 4 (s1 6) := hnf
    have hn15 : 5 * s1 6 + sNxF X (sT1 s1) < 15 := hn15
    cases ho : sOver X (sT1 s1)
    · simp only [Bool.false_eq_true, if_false]
      rw [if_pos (show nI (5 * sT1 s1 0 + sT1 s1 1) = nI (5 * s1 0 + s1 1) from rfl)]
      exact hend (sT1 s1) 0 false ag1 (by rw [hT]; unfold sRun; rw [ho]; rfl) ha2 (by omega) (by rw [hl1]; exact hz _) (by rw [hl1]; exact (hno _).symm)
    · simp only [if_true]
      show ∃ zM' ag', (if nI (5 * s1 6 + sNxF X (sT1 s1)) = nI (5 * s1 0 + s1 1) then m_X2_step_J87 F zX cl be le mo ph me sh lo (cM (sT1 s1) 0 0) ag1 else gk_bd (m_X2_leave F (nI (5 * s1 6 + sNxF X (sT1 s1))) (cM (sT1 s1) 0 0) zX be le me ag1) (fun v7 => m_X2_step_J87 F zX cl be le mo ph me sh lo v7.1 v7.2)) = _ ∧ _
      by_cases hsm : s1 6 = s1 0 ∧ sNxF X (sT1 s1) = s1 1
      · rw [if_pos (show nI (5 * s1 6 + sNxF X (sT1 s1)) = nI (5 * s1 0 + s1 1) by rw [hsm.1, hsm.2])]
        exact hend (sT1 s1) 0 false ag1 (by rw [hT]; unfold sRun; rw [ho, if_pos rfl]; exact if_pos hsm) ha2 (by omega) (by rw [hl1]; exact hz _) (by rw [hl1]; exact (hno _).symm)
      · rw [if_neg (show ¬ nI (5 * s1 6 + sNxF X (sT1 s1)) = nI (5 * s1 0 + s1 1) from fun h => by have := (nI_eq (by omega) (by omega)).mp h; omega)]
        have hTl : sTick X s1 = sLeave X (s1 6) (sNxF X (sT1 s1)) (sT1 s1) := by
          rw [hT]; unfold sRun; rw [ho, if_pos rfl]; exact if_neg hsm
        obtain ⟨ag3, e3, ha3⟩ := pc_leave hF hX hc (s := sT1 s1) (bg := 0) (p := s1 6) (f := sNxF X (sT1 s1)) (ag := ag1) g5 hnf g1 hv1.2.2.2.2.2.2.1 ha2
        rw [e3, pn_bd]
        have hold : sLit X s1 = sM X (s1 0) (s1 1) := by unfold sLit; rw [if_pos h3]
        have hcut : ∀ a, (∀ g, g < X 8 0 → (sM X (s1 0) (s1 1)).testBit g = true → a.testBit g = (sM X (s1 6) (sNxF X (sT1 s1))).testBit g) → sCut X (sM X (s1 0) (s1 1)) (sM X (s1 6) (sNxF X (sT1 s1))) (sT1 s1) (X 8 0) = sF3 X (sLit X s1) a s1 := fun a h => by
          unfold sCut sF3
          refine nex_congr (fun g hg => ?_)
          rw [andn_bit, hold]
          cases hb2 : (sM X (s1 0) (s1 1)).testBit g
          · rfl
          · rw [h g hg hb2, show sT1 s1 (8 + g) = s1 (8 + g) from if_neg (by omega)]
        have hbgl : andn (sM X (s1 6) (sNxF X (sT1 s1))) (sM X (s1 0) (s1 1)) < 64 := andn_lt (n := 6) (x_m64 hX g5 hnf)
        have hq : ∃ bg, bg = (if sClr X (sM X (s1 0) (s1 1)) (sM X (s1 6) (sNxF X (sT1 s1))) = 0 then andn (sM X (s1 6) (sNxF X (sT1 s1))) (sM X (s1 0) (s1 1)) else 0) := ⟨_, rfl⟩
        obtain ⟨bg, hbge⟩ := hq
        show ∃ zM' ag', m_X2_step_J87 F zX cl be le mo ph me sh lo (cM (sLeave X (s1 6) (sNxF X (sT1 s1)) (sT1 s1)) (if sClr X (sM X (s1 0) (s1 1)) (sM X (s1 6) (sNxF X (sT1 s1))) = 0 then andn (sM X (s1 6) (sNxF X (sT1 s1))) (sM X (s1 0) (s1 1)) else 0) (b2n (sCut X (sM X (s1 0) (s1 1)) (sM X (s1 6) (sNxF X (sT1 s1))) (sT1 s1) (X 8 0)))) ag3 = _ ∧ _
        by_cases hc0 : sClr X (sM X (s1 0) (s1 1)) (sM X (s1 6) (sNxF X (sT1 s1))) = 0
        · have hl2 : sLit X (sLeave X (s1 6) (sNxF X (sT1 s1)) (sT1 s1)) = sM X (s1 6) (sNxF X (sT1 s1)) := by
            unfold sLeave; rw [show sM X (sT1 s1 0) (sT1 s1 1) = sM X (s1 0) (s1 1) from rfl, if_pos hc0]; rfl
          rw [if_pos hc0]
          refine hend _ _ _ ag3 hTl ha3 hbgl (fun g hg hb2 => ?_) ?_
          · rw [hl2] at hb2
            rw [andn_bit, hb2, hold]; rfl
          · rw [hl2]; exact hcut _ (fun g hg _ => rfl)
        · have hl2 : sLit X (sLeave X (s1 6) (sNxF X (sT1 s1)) (sT1 s1)) = sM X (s1 0) (s1 1) &&& sM X (s1 6) (sNxF X (sT1 s1)) := by
            unfold sLeave; rw [show sM X (sT1 s1 0) (sT1 s1 1) = sM X (s1 0) (s1 1) from rfl, if_neg hc0]
            unfold sLit
            refine (if_neg hc0).trans ?_
            show sM X (sZero X (s1 6) (sNxF X (sT1 s1)) (sT1 s1) 0) (sZero X (s1 6) (sNxF X (sT1 s1)) (sT1 s1) 1) &&& _ = _
            rw [sZero_lo X _ _ _ (by omega), sZero_lo X _ _ _ (by omega)]; rfl
          rw [if_neg hc0]
          refine hend _ _ _ ag3 hTl ha3 (by omega) (fun g hg hb2 => ?_) ?_
          · rw [hl2, Nat.testBit_and] at hb2
            rw [hold, Nat.zero_testBit]
            cases h : (sM X (s1 0) (s1 1)).testBit g
            · rw [h, Bool.false_and] at hb2; exact absurd hb2 (by decide)
            · rfl
          · rw [hl2]; exact hcut _ (fun g hg hb2 => by rw [Nat.testBit_and, hb2, Bool.true_and])
  · show ∃ zM' ag', (if nI (s1 3) ≤ 0 then _ else _) = _ ∧ _
    rw [if_neg (nI_nle (by omega) (by omega))]
    show ∃ zM' ag', (if nI (s1 3) - 1 = 0 then gk_bd (m_X2_enter F (nI (5 * s1 4 + s1 5)) (nI (5 * s1 0 + s1 1), nI (s1 2), nI (s1 3) - 1, nI (5 * s1 4 + s1 5), nI (s1 6), nI (s1 7), nI 0, nI 0) zX me ag1) (fun v9 => m_X2_step_J87 F zX cl be le mo ph me sh lo v9.1 v9.2) else m_X2_step_J87 F zX cl be le mo ph me sh lo (nI (5 * s1 0 + s1 1), nI (s1 2), nI (s1 3) - 1, nI (5 * s1 4 + s1 5), nI (s1 6), nI (s1 7), nI 0, nI 0) ag1) = _ ∧ _
    rw [show nI (s1 3) - 1 = nI (s1 3 - 1) from pk_sub (b := 1) (by omega)]
    by_cases h31 : s1 3 = 1
    · rw [if_pos (by rw [h31]; rfl)]
      have hT : sTick X s1 = sEnter X (s1 4) (s1 5) s1 := by unfold sTick; rw [if_neg h3, if_pos h31]
      have hcM : ((nI (5 * s1 0 + s1 1), nI (s1 2), nI (s1 3 - 1), nI (5 * s1 4 + s1 5), nI (s1 6), nI (s1 7), nI 0, nI 0) : Int32 × Int32 × Int32 × Int32 × Int32 × Int32 × Int32 × Int32) = cM (sU s1 3 (s1 3 - 1)) 0 0 := rfl
      obtain ⟨ag3, e3, ha3⟩ := pc_enter hF hX hc (s := sU s1 3 (s1 3 - 1)) (bg := 0) (cs := 0) (ag := ag1) g4.1 g4.2 g1 (fun g hg => by rw [ha1 g hg]; show _ = nI (if 8 + g = 3 then _ else _); rw [if_neg (by omega)])
      rw [hcM, e3, pn_bd]
      have he3 : sEnter X (s1 4) (s1 5) (sU s1 3 (s1 3 - 1)) = sEnter X (s1 4) (s1 5) s1 := by
        funext j
        unfold sEnter sU
        by_cases hj : j = 3
        · subst hj; rfl
        · simp only [hj, if_false, Nat.reduceEqDiff]
      rw [he3] at ha3
      show ∃ zM' ag', m_X2_step_J87 F zX cl be le mo ph me sh lo (cM (sEnter X (s1 4) (s1 5) (sU s1 3 (s1 3 - 1))) (andn (sM X (s1 4) (s1 5)) (sM X (s1 0) (s1 1))) (b2n false)) ag3 = _ ∧ _
      rw [he3]
      have hl2 : sLit X (sEnter X (s1 4) (s1 5) s1) = sM X (s1 4) (s1 5) := rfl
      have hl1 : sLit X s1 = sM X (s1 0) (s1 1) &&& sM X (s1 4) (s1 5) := by unfold sLit; rw [if_neg h3]
      refine hend _ _ _ ag3 hT ha3 (andn_lt (n := 6) (x_m64 hX g4.1 g4.2)) (fun g hg hb2 => ?_) ?_
      · rw [hl2] at hb2
        rw [andn_bit, hl1, Nat.testBit_and, hb2, Bool.and_true, Bool.true_and]
      · rw [hl2, hl1]
        exact (nex_none (fun k _ => by rw [Nat.testBit_and]; cases (sM X (s1 0) (s1 1)).testBit k <;> cases (sM X (s1 4) (s1 5)).testBit k <;> rfl)).symm
    · rw [if_neg (by rw [pl_0, pn_eq (by omega) (by omega)]; omega)]
      have hT : sTick X s1 = sU s1 3 (s1 3 - 1) := by unfold sTick; rw [if_neg h3, if_neg h31]
      have hl2 : sLit X (sU s1 3 (s1 3 - 1)) = sLit X s1 := by
        unfold sLit
        rw [if_neg (show ¬ sU s1 3 (s1 3 - 1) 3 = 0 by show ¬ s1 3 - 1 = 0; omega), if_neg h3]; rfl
      exact hend (sU s1 3 (s1 3 - 1)) 0 false ag1 hT (fun g hg => by rw [ha1 g hg]; show _ = nI (if 8 + g = 3 then _ else _); rw [if_neg (by omega)]) (by omega) (by rw [hl2]; exact hz _) (by rw [hl2]; exact (hno _).symm)
