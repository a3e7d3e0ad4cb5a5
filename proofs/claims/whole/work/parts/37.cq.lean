/-! the states keep their bounds; a second of the class -/
theorem sV_hear {X : Nat → Nat → Nat} (hX : xG X) {s : Nat → Nat} {e : Nat} (hs : sV X s) (he : e ≤ X 8 0 + X 8 1) : sV X (sHear X e s) := by
  unfold sHear
  by_cases h0 : e = 0
  · rw [if_pos h0]; exact hs
  · rw [if_neg h0]
    obtain ⟨h1, h2, h3, h4, h5, h6, h7, h8, h9⟩ := hs
    by_cases h10 : e ≤ X 8 0
    · rw [if_pos h10]
      cases hb : (sLit X s).testBit (e - 1)
      · simp only [Bool.false_eq_true, if_false]
        refine ⟨h1, h2, h3, h4, h5, ?_, ?_, ?_, ?_⟩
        · show (if 7 = 7 then _ else _) < _
          rw [if_pos rfl]
          exact Nat.or_lt_two_pow h6 (Nat.pow_lt_pow_right (by decide) (by omega))
        · intro g hg
          show (if 8 + g = 7 then _ else _) ≤ _
          rw [if_neg (by omega)]; exact h7 g hg
        · intro g hg
          show (if 8 + g = 7 then _ else _) = _
          rw [if_neg (by omega)]; exact h8 g hg
        · intro h30
          have h30 : s 3 = 0 := h30
          obtain ⟨g1, g2, g3⟩ := h9 h30
          refine ⟨g1, g2, ?_⟩
          show (s 7 ||| 2 ^ (e - 1)) &&& sM X (s 0) (s 1) = 0
          have hl : (sM X (s 0) (s 1)).testBit (e - 1) = false := by
            unfold sLit at hb; rw [if_pos h30] at hb; exact hb
          apply Nat.eq_of_testBit_eq
          intro i
          have g4 : (s 7 &&& sM X (s 0) (s 1)).testBit i = false := by rw [g3]; exact Nat.zero_testBit i
          rw [Nat.testBit_and] at g4
          rw [Nat.zero_testBit, Nat.testBit_and, Nat.testBit_or, Nat.testBit_two_pow]
          by_cases hi : e - 1 = i
          · subst hi; rw [hl, Bool.and_false]
          · rw [decide_eq_false hi, Bool.or_false]; exact g4
      · simp only [if_true]
        exact ⟨h1, h2, h3, h4, h5, h6, h7, h8, h9⟩
    · rw [if_neg h10]
      refine ⟨h1, h2, h3, h4, ?_, h6, fun g hg => ?_, fun g hg => ?_, h9⟩
      · show (if 6 = 6 then _ else _) < _
        rw [if_pos rfl]; omega
      · show (if 8 + g = 6 then _ else _) ≤ _
        rw [if_neg (by omega)]; exact h7 g hg
      · show (if 8 + g = 6 then _ else _) = _
        rw [if_neg (by omega)]; exact h8 g hg
theorem sUp_le (l g v : Nat) : sUp l g v ≤ 31 := by unfold sUp; split <;> split <;> omega
theorem sGrow_lo (X : Nat → Nat → Nat) (s : Nat → Nat) {j : Nat} (h : j < 8) : sGrow X s j = s j := by unfold sGrow; rw [if_neg (by omega)]
theorem sV_grow {X : Nat → Nat → Nat} {s : Nat → Nat} (hs : sV X s) : sV X (sGrow X s) := by
  obtain ⟨h1, h2, h3, h4, h5, h6, h7, h8, h9⟩ := hs
  refine ⟨h1, h2, h3, h4, h5, h6, fun g hg => ?_, fun g hg => ?_, h9⟩
  · unfold sGrow; split
    · exact sUp_le _ _ _
    · exact h7 g hg
  · unfold sGrow; rw [if_neg (by omega)]; exact h8 g hg
theorem sV_enter {X : Nat → Nat → Nat} {s : Nat → Nat} {p f : Nat} (hp : p < X 8 1) (hf : f < X 4 p) (h0 : 0 < X 4 0) (hs : s 6 < X 8 1 ∧ s 7 < 2 ^ X 8 0 ∧ (∀ g, g < 6 → s (8 + g) ≤ 31) ∧ (∀ g, X 8 0 ≤ g → s (8 + g) = 0)) : sV X (sEnter X p f s) := by
  obtain ⟨h6, h7, h8, h9⟩ := hs
  refine ⟨⟨hp, hf⟩, Nat.zero_le _, Nat.zero_le _, ⟨?_, h0⟩, h6, andn_lt h7, fun g hg => ?_, fun g hg => ?_, fun _ => ⟨rfl, rfl, ?_⟩⟩
  · exact Nat.lt_of_le_of_lt (Nat.zero_le p) hp
  · unfold sEnter
    simp only [show ¬ 8 + g = 0 by omega, show ¬ 8 + g = 1 by omega, show ¬ 8 + g < 6 by omega, show ¬ 8 + g = 7 by omega, if_false]
    split
    · omega
    · exact h8 g hg
  · unfold sEnter
    simp only [show ¬ 8 + g = 0 by omega, show ¬ 8 + g = 1 by omega, show ¬ 8 + g < 6 by omega, show ¬ 8 + g = 7 by omega, if_false]
    split
    · rfl
    · exact h9 g hg
  · show andn (s 7) (sM X p f) &&& sM X p f = 0
    apply Nat.eq_of_testBit_eq
    intro i
    rw [Nat.zero_testBit, Nat.testBit_and, andn_bit]
    cases (s 7).testBit i <;> cases (sM X p f).testBit i <;> rfl
theorem sZero_lo (X : Nat → Nat → Nat) (p f : Nat) (s : Nat → Nat) {j : Nat} (h : j < 8) : sZero X p f s j = s j := by unfold sZero; rw [if_neg (by omega)]
theorem sZero_le (X : Nat → Nat → Nat) (p f : Nat) (s : Nat → Nat) (j : Nat) : sZero X p f s j ≤ s j := by unfold sZero; split <;> omega
theorem sV_leave {X : Nat → Nat → Nat} (hX : xG X) {s : Nat → Nat} {p f : Nat} (hp : p < X 8 1) (hf : f < X 4 p) (hs : sV X s) : sV X (sLeave X p f s) := by
  obtain ⟨h1, h2, h3, h4, h5, h6, h7, h8, h9⟩ := hs
  have h0 : 0 < X 4 0 := (hX.2.2.2.2.2.2 0 (by omega)).1
  have g7 : ∀ g, g < 6 → sZero X p f s (8 + g) ≤ 31 := fun g hg => Nat.le_trans (sZero_le X p f s _) (h7 g hg)
  have g8 : ∀ g, X 8 0 ≤ g → sZero X p f s (8 + g) = 0 := fun g hg => Nat.le_zero.mp (Nat.le_trans (sZero_le X p f s _) (Nat.le_of_eq (h8 g hg)))
  unfold sLeave
  by_cases hc0 : sClr X (sM X (s 0) (s 1)) (sM X p f) = 0
  · rw [if_pos hc0]
    exact sV_enter hp hf h0 ⟨by rw [sZero_lo X p f s (by omega)]; exact h5, by rw [sZero_lo X p f s (by omega)]; exact h6, g7, g8⟩
  · rw [if_neg hc0]
    have hc1 := clr_le hX (sM X (s 0) (s 1)) (sM X p f)
    refine ⟨?_, ?_, hc1, ⟨hp, hf⟩, ?_, ?_, fun g hg => ?_, fun g hg => ?_, fun h => absurd h hc0⟩
    · show sZero X p f s 0 < _ ∧ sZero X p f s 1 < X 4 (sZero X p f s 0)
      rw [sZero_lo X p f s (by omega), sZero_lo X p f s (by omega)]; exact h1
    · show sZero X p f s 2 ≤ _
      rw [sZero_lo X p f s (by omega)]; exact h2
    · show sZero X p f s 6 < _
      rw [sZero_lo X p f s (by omega)]; exact h5
    · show sZero X p f s 7 < _
      rw [sZero_lo X p f s (by omega)]; exact h6
    · unfold sU
      rw [if_neg (by omega), if_neg (by omega), if_neg (by omega)]; exact g7 g hg
    · unfold sU
      rw [if_neg (by omega), if_neg (by omega), if_neg (by omega)]; exact g8 g hg
theorem nxF_lt {X : Nat → Nat → Nat} (hX : xG X) {s : Nat → Nat} (h0 : s 0 < X 8 1) (h6 : s 6 < X 8 1) : sNxF X s < X 4 (s 6) := by
  unfold sNxF
  have h1 := (hX.2.2.2.2.2.2 (s 6) h6).1
  by_cases h : s 6 = s 0
  · rw [if_pos h, h]
    have h2 := (hX.2.2.2.2.2.2 (s 0) h0).1
    unfold sNf
    split <;> exact Nat.mod_lt _ (by omega)
  · rw [if_neg h]; omega
theorem sV_run {X : Nat → Nat → Nat} (hX : xG X) {s : Nat → Nat} (hs : sV X s) : sV X (sRun X s) := by
  unfold sRun
  split
  · split
    · exact hs
    · exact sV_leave hX hs.2.2.2.2.1 (nxF_lt hX hs.1.1 hs.2.2.2.2.1) hs
  · exact hs
def sT1 (s : Nat → Nat) : Nat → Nat := sU s 2 (if s 2 < 31 then s 2 + 1 else 31)
theorem sV_t1 {X : Nat → Nat → Nat} {s : Nat → Nat} (hs : sV X s) : sV X (sT1 s) := by
  obtain ⟨h1, h2, h3, h4, h5, h6, h7, h8, h9⟩ := hs
  refine ⟨h1, ?_, h3, h4, h5, h6, fun g hg => ?_, fun g hg => ?_, h9⟩
  · show (if s 2 < 31 then s 2 + 1 else 31) ≤ 31
    split <;> omega
  · show (if 8 + g = 2 then _ else _) ≤ _
    rw [if_neg (by omega)]; exact h7 g hg
  · show (if 8 + g = 2 then _ else _) = _
    rw [if_neg (by omega)]; exact h8 g hg
theorem sV_tick {X : Nat → Nat → Nat} (hX : xG X) {s : Nat → Nat} (hs : sV X s) : sV X (sTick X s) := by
  unfold sTick
  by_cases h3 : s 3 = 0
  · rw [if_pos h3]; exact sV_run hX (sV_t1 hs)
  · rw [if_neg h3]
    have h0 : 0 < X 4 0 := (hX.2.2.2.2.2.2 0 (by have := hs.1.1; omega)).1
    by_cases h31 : s 3 = 1
    · rw [if_pos h31]; exact sV_enter hs.2.2.2.1.1 hs.2.2.2.1.2 h0 ⟨hs.2.2.2.2.1, hs.2.2.2.2.2.1, hs.2.2.2.2.2.2.1, hs.2.2.2.2.2.2.2.1⟩
    · rw [if_neg h31]
      obtain ⟨h1, h2, h3', h4, h5, h6, h7, h8, h9⟩ := hs
      refine ⟨h1, h2, ?_, h4, h5, h6, fun g hg => ?_, fun g hg => ?_, fun h => ?_⟩
      · show (if 3 = 3 then _ else _) ≤ 15
        rw [if_pos rfl]; omega
      · show (if 8 + g = 3 then _ else _) ≤ _
        rw [if_neg (by omega)]; exact h7 g hg
      · show (if 8 + g = 3 then _ else _) = _
        rw [if_neg (by omega)]; exact h8 g hg
      · have h : s 3 - 1 = 0 := h
        omega
theorem sV_go {X : Nat → Nat → Nat} (hX : xG X) {s : Nat → Nat} {e : Nat} (hs : sV X s) (he : e ≤ X 8 0 + X 8 1) : sV X (sGo X e s) := sV_tick hX (sV_grow (sV_hear hX hs he))
theorem pc_next {F : Nat} {X : Nat → Nat → Nat} {zX : Int32 × Int32} {cl be le mo ph me sh lo : Nat → Int32} (hF : 2000 ≤ F) (hX : xG X) (hc : cX X zX cl be le mo ph me sh lo) {s : Nat → Nat} {bg cs : Nat} (hs : sV X s) (h3 : s 3 = 0) : m_X2_following F (cM s bg cs) zX ph me sh lo = some (nI (if sOver X s then 5 * s 6 + sNxF X s else 5 * s 0 + s 1)) := by
  obtain ⟨⟨h0, h1⟩, h2, -, -, h6, h7, -, -, h9⟩ := hs
  have hP := hX.2.2.1
  have h15 := x_pl hX h0 h1
  have h5 := (hX.2.2.2.2.2.2 (s 0) h0).2.1
  have h764 : s 7 < 64 := Nat.lt_of_lt_of_le h7 (x_64 hX)
  have hd : nI (5 * s 0 + s 1) / nI 5 = nI (s 0) := by rw [pk_div (by omega) (by omega) (by omega), show (5 * s 0 + s 1) / 5 = s 0 by omega]
  have hn : andn (s 7) (sM X (s 0) (s 1)) < 64 := andn_lt (n := 6) h764
  have hJ49 : ∀ x1 y0 : Nat, x1 ≤ 1 → y0 ≤ 1 → m_X2_following_J49 F (cM s bg cs) zX ph me sh lo (nI x1) (nI y0) = some (nI (if X 7 (5 * s 0 + s 1) ≤ s 2 ∨ (y0 = 1 ∧ X 6 (5 * s 0 + s 1) ≤ s 2) then (if x1 = 0 then 5 * s 0 + sNf X (s 0) (s 1) (s 7) else 5 * s 6) else 5 * s 0 + s 1)) := fun x1 y0 hx hy => by
    unfold m_X2_following_J49
    rw [pc_over hF hX hc h0 h1 h2 hy, pn_bd]
    by_cases hc1 : X 7 (5 * s 0 + s 1) ≤ s 2 ∨ (y0 = 1 ∧ X 6 (5 * s 0 + s 1) ≤ s 2)
    · simp only [hc1, if_true]
      rw [if_neg (by decide)]
      by_cases hx0 : x1 = 0
      · subst hx0
        rw [if_pos z00, if_pos rfl, pc_behind hF hX hc h0 h1 h764 (h9 h3).2.2, pn_bd]
      · rw [if_neg (zn0 hx0 (by omega)), if_neg hx0, pl_5, pk_mul, Nat.mul_comm]
    · simp only [hc1, if_false]
      rw [if_pos z00]
  unfold m_X2_following
  simp only [pl_5, hd, pn_eq (show s 6 < 2 ^ 31 by omega) (show s 0 < 2 ^ 31 by omega)]
  by_cases h60 : s 6 = s 0
  · rw [if_pos h60]
    unfold m_X2_following_J18 m_X2_following_J44
    simp only [pl_0, pl_1, if_true]
    rw [pc_mem hF hX hc h0 h1, pn_bd]
    simp only [pm_andn, pn_eq (show andn (s 7) (sM X (s 0) (s 1)) < 2 ^ 31 by omega) (show 0 < 2 ^ 31 by omega)]
    rw [hJ49 0 0 (by omega) (by omega), hJ49 0 1 (by omega) (by omega)]
    have e1 : sNxF X s = sNf X (s 0) (s 1) (s 7) := by unfold sNxF; rw [if_pos h60]
    have e2 : sOver X s = (decide (X 7 (5 * s 0 + s 1) ≤ s 2) || (andn (s 7) (sM X (s 0) (s 1)) != 0 && decide (X 6 (5 * s 0 + s 1) ≤ s 2))) := by
      unfold sOver sAsk; rw [h60, bne_self_eq_false, Bool.false_or]
    rw [e1, e2, h60]
    by_cases c1 : X 7 (5 * s 0 + s 1) ≤ s 2 <;> by_cases c2 : andn (s 7) (sM X (s 0) (s 1)) = 0 <;> by_cases c3 : X 6 (5 * s 0 + s 1) ≤ s 2 <;> simp [c1, c2, c3]
  · rw [if_neg h60]
    unfold m_X2_following_J18 m_X2_following_J44
    rw [if_neg (show ¬ (1 : Int32) = 0 by decide)]
    show m_X2_following_J49 F (cM s bg cs) zX ph me sh lo (nI 1) (nI 1) = _
    rw [hJ49 1 1 (by omega) (by omega)]
    have e1 : sNxF X s = 0 := by unfold sNxF; rw [if_neg h60]
    have e2 : sOver X s = (decide (X 7 (5 * s 0 + s 1) ≤ s 2) || decide (X 6 (5 * s 0 + s 1) ≤ s 2)) := by
      have hb : (s 6 != s 0) = true := by simp [h60]
      unfold sOver sAsk; rw [hb, Bool.true_or, Bool.true_and]
    rw [e1, e2]
    by_cases c1 : X 7 (5 * s 0 + s 1) ≤ s 2 <;> by_cases c3 : X 6 (5 * s 0 + s 1) ≤ s 2 <;> simp [c1, c3]
