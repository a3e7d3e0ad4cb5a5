/-! the class's machine: entering, leaving, faults, a second -/
def b2n (b : Bool) : Nat := if b then 1 else 0
theorem b2n_le (b : Bool) : b2n b ≤ 1 := by cases b <;> decide
theorem b2n_or (a b : Bool) : nI (b2n a) ||| nI (b2n b) = nI (b2n (a || b)) := by
  rw [pn_or]; cases a <;> cases b <;> rfl
theorem b2n_bz {α : Type} (b : Bool) (k : Option α) : gk_bz (nI (b2n b)) k = k := by cases b <;> rfl
theorem b2n_0 (b : Bool) : (nI (b2n b) = nI 0) = (b = false) := by cases b <;> simp [b2n] <;> decide
theorem pc_enter {F : Nat} {X : Nat → Nat → Nat} {zX : Int32 × Int32} {cl be le mo ph me sh lo : Nat → Int32} (hF : 2000 ≤ F) (hX : xG X) (hc : cX X zX cl be le mo ph me sh lo) {s : Nat → Nat} {bg cs p f : Nat} {ag : Nat → Int32} (hp : p < X 8 1) (hf : f < X 4 p) (h0 : s 0 < X 8 1 ∧ s 1 < X 4 (s 0)) (ha : ∀ g, g < 6 → ag g = nI (s (8 + g))) : ∃ ag', m_X2_enter F (nI (5 * p + f)) (cM s bg cs) zX me ag = some (cM (sEnter X p f s) (andn (sM X p f) (sM X (s 0) (s 1))) cs, ag') ∧ ∀ g, g < 6 → ag' g = nI (sEnter X p f s (8 + g)) := by
  have hN := hX.2.1
  have hb : andn (sM X p f) (sM X (s 0) (s 1)) < 64 := andn_lt (n := 6) (x_m64 hX hp hf)
  unfold m_X2_enter
  rw [pc_mem hF hX hc hp hf, pn_bd, pc_mem hF hX hc h0.1 h0.2, pn_bd]
  simp only [pl_1]
  rw [pm_andn]
  obtain ⟨n', a', e, hI⟩ := lpA (L := fun n k ag => m_X2_enter_L30 F zX me n (nI (5 * p + f)) (nI (sM X p f)) (nI k) (cM s (andn (sM X p f) (sM X (s 0) (s 1))) cs) ag) (N := X 8 0)
    (Inv := fun k a => ∀ g, g < 6 → a g = nI (if g < k ∧ (andn (sM X p f) (sM X (s 0) (s 1))).testBit g = true then 0 else s (8 + g))) (by
    intro n k a hk hi
    have hst : ∀ a2 : Nat → Int32, (∀ g, g < 6 → a2 g = if g = k then nI (if (andn (sM X p f) (sM X (s 0) (s 1))).testBit k = true then 0 else s (8 + k)) else a g) → ∀ g, g < 6 → a2 g = nI (if g < k + 1 ∧ (andn (sM X p f) (sM X (s 0) (s 1))).testBit g = true then 0 else s (8 + g)) := fun a2 h2 g hg => by
      rw [h2 g hg]
      by_cases h : g = k
      · subst h; simp only [if_true, show g < g + 1 by omega, true_and]
      · rw [if_neg h, hi g hg]
        by_cases h3 : g < k
        · simp only [h3, show g < k + 1 by omega, true_and]
        · simp only [h3, show ¬ g < k + 1 by omega, false_and]
    show ∃ a', m_X2_enter_L30 F zX me (n + 1) (nI (5 * p + f)) (nI (sM X p f)) (nI k) (cM s (andn (sM X p f) (sM X (s 0) (s 1))) cs) a = m_X2_enter_L30 F zX me n (nI (5 * p + f)) (nI (sM X p f)) (nI (k + 1)) (cM s (andn (sM X p f) (sM X (s 0) (s 1))) cs) a' ∧ _
    rw [u_X2_enter_L30, hc.1]
    cases hb2 : (andn (sM X p f) (sM X (s 0) (s 1))).testBit k
    · refine ⟨a, ?_, hst a (fun g hg => ?_)⟩
      · simp (disch := omega) only [pl_0, pl_1, pl_2, pl_3, pl_4, pl_5, pl_6, pl_7, pl_8, pl_9, pl_10, pl_11, pl_12, pl_13, pl_14, pl_15, pl_31, nI_add, pk_mul, pn_le, pn_lt, pn_eq, nI_clamp, pn_ck, pn_bd, pn_b0, pn_b1, pn_or, pn_andn, pm_andn, Nat.not_lt_zero, Nat.zero_le, ↓reduceIte, m_X2_enter_J59, show ¬ X 8 0 ≤ k by omega, hb2]
      · by_cases h : g = k
        · subst h; rw [if_pos rfl, hb2, hi g hg, if_neg (by omega)]; rfl
        · rw [if_neg h]
    · refine ⟨upd a k 0, ?_, hst _ (fun g hg => ?_)⟩
      · simp (disch := omega) only [pl_0, pl_1, pl_2, pl_3, pl_4, pl_5, pl_6, pl_7, pl_8, pl_9, pl_10, pl_11, pl_12, pl_13, pl_14, pl_15, pl_31, nI_add, pk_mul, pn_le, pn_lt, pn_eq, nI_clamp, pn_ck, pn_bd, pn_b0, pn_b1, pn_or, pn_andn, pm_andn, Nat.not_lt_zero, Nat.zero_le, ↓reduceIte, m_X2_enter_J59, show ¬ X 8 0 ≤ k by omega, hb2, Bool.true_eq_false]
      · by_cases h : g = k
        · subst h; rw [if_pos rfl, hb2, upd_same]; rfl
        · rw [if_neg h, upd_ne h]) (X 8 0) F 0 ag (by omega) (by omega) (fun g hg => by rw [ha g hg, if_neg (by omega)])
  refine ⟨a', ?_, fun g hg => ?_⟩
  · have e : m_X2_enter_L30 F zX me F (nI (5 * p + f)) (nI (sM X p f)) (nI 0) (cM s (andn (sM X p f) (sM X (s 0) (s 1))) cs) ag = m_X2_enter_L30 F zX me (n' + 1) (nI (5 * p + f)) (nI (sM X p f)) (nI (X 8 0)) (cM s (andn (sM X p f) (sM X (s 0) (s 1))) cs) a' := e
    show m_X2_enter_L30 F zX me F (nI (5 * p + f)) (nI (sM X p f)) (nI 0) (cM s (andn (sM X p f) (sM X (s 0) (s 1))) cs) ag = _
    rw [e, u_X2_enter_L30, hc.1]
    simp (disch := omega) only [pl_1, pn_le, Nat.le_refl, if_true, pm_andn]
    rfl
  · rw [hI g hg]; unfold sEnter
    simp only [show ¬ 8 + g = 0 by omega, show ¬ 8 + g = 1 by omega, show ¬ 8 + g < 6 by omega, show ¬ 8 + g = 7 by omega, if_false, show 8 + g - 8 = g by omega, show (8 ≤ 8 + g) = True by simp, true_and, andn_bit, Bool.and_eq_true, Bool.not_eq_true']
    by_cases h : g < X 8 0
    · simp only [h, show 8 + g < 8 + X 8 0 by omega, true_and]
    · simp only [h, show ¬ 8 + g < 8 + X 8 0 by omega, false_and]
theorem sClr_eq (X : Nat → Nat → Nat) (o n : Nat) : nmax (fun a => if (andn o n).testBit a = true then nmax (fun b => if (andn n o).testBit b = true then X 1 (6 * a + b) else 0) (X 8 0) else 0) (X 8 0) = sClr X o n := by
  unfold sClr
  simp only [andn_bit, Bool.and_eq_true, Bool.not_eq_true']
def sCut (X : Nat → Nat → Nat) (o n : Nat) (s : Nat → Nat) (k : Nat) : Bool := nex (fun g => (andn o n).testBit g && decide (s (8 + g) < X 2 g)) k
theorem clr_le {X : Nat → Nat → Nat} (hX : xG X) (o n : Nat) : sClr X o n ≤ 15 := by
  have hN := hX.2.1
  unfold sClr
  refine nmax_le (fun a ha => ?_)
  show (if _ then _ else _) ≤ 15
  split
  · refine nmax_le (fun b hb => ?_)
    show (if _ then _ else _) ≤ 15
    split
    · exact (hX.2.2.2.1 _ (by omega)).2.1
    · omega
  · omega
theorem pc_leave {F : Nat} {X : Nat → Nat → Nat} {zX : Int32 × Int32} {cl be le mo ph me sh lo : Nat → Int32} (hF : 2000 ≤ F) (hX : xG X) (hc : cX X zX cl be le mo ph me sh lo) {s : Nat → Nat} {bg p f : Nat} {ag : Nat → Int32} (hp : p < X 8 1) (hf : f < X 4 p) (h0 : s 0 < X 8 1 ∧ s 1 < X 4 (s 0)) (hv : ∀ g, g < 6 → s (8 + g) ≤ 31) (ha : ∀ g, g < 6 → ag g = nI (s (8 + g))) : ∃ ag', m_X2_leave F (nI (5 * p + f)) (cM s bg 0) zX be le me ag = some (cM (sLeave X p f s) (if sClr X (sM X (s 0) (s 1)) (sM X p f) = 0 then andn (sM X p f) (sM X (s 0) (s 1)) else bg) (b2n (sCut X (sM X (s 0) (s 1)) (sM X p f) s (X 8 0))), ag') ∧ ∀ g, g < 6 → ag' g = nI (sLeave X p f s (8 + g)) := by
  have hN := hX.2.1
  have hgo : andn (sM X (s 0) (s 1)) (sM X p f) < 64 := andn_lt (n := 6) (x_m64 hX h0.1 h0.2)
  have hco : andn (sM X p f) (sM X (s 0) (s 1)) < 64 := andn_lt (n := 6) (x_m64 hX hp hf)
  have hcl := clr_le hX (sM X (s 0) (s 1)) (sM X p f)
  unfold m_X2_leave
  rw [pc_mem hF hX hc h0.1 h0.2, pn_bd, pc_mem hF hX hc hp hf, pn_bd]
  simp only [pl_1]
  rw [pm_andn]
  obtain ⟨n', a', e, hI⟩ := lpA (L := fun n k (a : (Int32 × Int32 × Int32 × Int32 × Int32 × Int32 × Int32 × Int32) × (Nat → Int32)) => m_X2_leave_L31 F zX be le me n (nI (5 * p + f)) (nI (sM X (s 0) (s 1))) (nI (sM X p f)) (nI (andn (sM X (s 0) (s 1)) (sM X p f))) (nI k) a.1 a.2) (N := X 8 0)
    (Inv := fun k a => a.1 = cM s bg (b2n (sCut X (sM X (s 0) (s 1)) (sM X p f) s k)) ∧ ∀ g, g < 6 → a.2 g = nI (if g < k ∧ (andn (sM X (s 0) (s 1)) (sM X p f)).testBit g = true then 0 else s (8 + g))) (by
    intro n k a hk hi
    obtain ⟨zM, a⟩ := a
    obtain ⟨rfl, hi⟩ := hi
    have hst : ∀ a2 : Nat → Int32, (∀ g, g < 6 → a2 g = if g = k then nI (if (andn (sM X (s 0) (s 1)) (sM X p f)).testBit k = true then 0 else s (8 + k)) else a g) → ∀ g, g < 6 → a2 g = nI (if g < k + 1 ∧ (andn (sM X (s 0) (s 1)) (sM X p f)).testBit g = true then 0 else s (8 + g)) := fun a2 h2 g hg => by
      rw [h2 g hg]
      by_cases h : g = k
      · subst h; simp only [if_true, show g < g + 1 by omega, true_and]
      · rw [if_neg h, show a g = _ from hi g hg]
        by_cases h3 : g < k
        · simp only [h3, show g < k + 1 by omega, true_and]
        · simp only [h3, show ¬ g < k + 1 by omega, false_and]
    have hak : a k = nI (s (8 + k)) := by rw [show a k = _ from hi k (by omega), if_neg (by omega)]
    have hlk := hc.2.2.2.1 k (by omega)
    have hvk := hv k (by omega)
    have hl2 := (hX.2.2.2.2.2.1 k (by omega)).1
    show ∃ a' : (Int32 × Int32 × Int32 × Int32 × Int32 × Int32 × Int32 × Int32) × (Nat → Int32), m_X2_leave_L31 F zX be le me (n + 1) (nI (5 * p + f)) (nI (sM X (s 0) (s 1))) (nI (sM X p f)) (nI (andn (sM X (s 0) (s 1)) (sM X p f))) (nI k) _ a = m_X2_leave_L31 F zX be le me n (nI (5 * p + f)) (nI (sM X (s 0) (s 1))) (nI (sM X p f)) (nI (andn (sM X (s 0) (s 1)) (sM X p f))) (nI (k + 1)) a'.1 a'.2 ∧ _
    rw [u_X2_leave_L31, hc.1]
    cases hb2 : (andn (sM X (s 0) (s 1)) (sM X p f)).testBit k
    · refine ⟨(cM s bg (b2n (sCut X (sM X (s 0) (s 1)) (sM X p f) s (k + 1))), a), ?_, rfl, hst a (fun g hg => ?_)⟩
      · simp (disch := omega) only [pl_0, pl_1, pl_2, pl_3, pl_4, pl_5, pl_6, pl_7, pl_8, pl_9, pl_10, pl_11, pl_12, pl_13, pl_14, pl_15, pl_31, nI_add, pk_mul, pn_le, pn_lt, pn_eq, nI_clamp, pn_ck, pn_bd, pn_b0, pn_b1, pn_or, pn_andn, pm_andn, Nat.not_lt_zero, Nat.zero_le, ↓reduceIte, m_X2_leave_J95, show ¬ X 8 0 ≤ k by omega, hb2, sCut, nex, Bool.false_and, Bool.or_false]
      · by_cases h : g = k
        · subst h; rw [if_pos rfl, hb2, hak]; rfl
        · rw [if_neg h]
    · refine ⟨(cM s bg (b2n (sCut X (sM X (s 0) (s 1)) (sM X p f) s (k + 1))), upd a k 0), ?_, rfl, hst (upd a k 0) (fun g hg => ?_)⟩
      · have e1 : sCut X (sM X (s 0) (s 1)) (sM X p f) s (k + 1) = (sCut X (sM X (s 0) (s 1)) (sM X p f) s k || decide (s (8 + k) < X 2 k)) := by
          unfold sCut; simp only [nex, hb2, Bool.true_and]
        rw [e1]
        by_cases h : s (8 + k) < X 2 k
        · simp (disch := omega) only [pl_0, pl_1, pl_2, pl_3, pl_4, pl_5, pl_6, pl_7, pl_8, pl_9, pl_10, pl_11, pl_12, pl_13, pl_14, pl_15, pl_31, nI_add, pk_mul, pn_le, pn_lt, pn_eq, nI_clamp, pn_ck, pn_bd, pn_b0, pn_b1, pn_or, pn_andn, pm_andn, Nat.not_lt_zero, Nat.zero_le, ↓reduceIte, m_X2_leave_J95, m_X2_leave_J83, show ¬ X 8 0 ≤ k by omega, hb2, Bool.true_eq_false, hak, hlk, show ¬ X 2 k ≤ s (8 + k) by omega, h, decide_true]
          rw [← pn_or, show nI 1 = nI (b2n true) from rfl, b2n_or, b2n_bz]
        · simp (disch := omega) only [pl_0, pl_1, pl_2, pl_3, pl_4, pl_5, pl_6, pl_7, pl_8, pl_9, pl_10, pl_11, pl_12, pl_13, pl_14, pl_15, pl_31, nI_add, pk_mul, pn_le, pn_lt, pn_eq, nI_clamp, pn_ck, pn_bd, pn_b0, pn_b1, pn_or, pn_andn, pm_andn, Nat.not_lt_zero, Nat.zero_le, ↓reduceIte, m_X2_leave_J95, m_X2_leave_J83, show ¬ X 8 0 ≤ k by omega, hb2, Bool.true_eq_false, hak, hlk, show X 2 k ≤ s (8 + k) by omega, h, decide_false]
          rw [← pn_or, show nI 0 = nI (b2n false) from rfl, b2n_or, b2n_bz]
      · by_cases h : g = k
        · subst h; rw [if_pos rfl, hb2, upd_same]; rfl
        · rw [if_neg h, upd_ne h]) (X 8 0) F 0 (cM s bg 0, ag) (by omega) (by omega) ⟨rfl, fun g hg => (ha g hg).trans (by rw [if_neg (by omega)])⟩
  obtain ⟨zM, a'⟩ := a'
  obtain ⟨rfl, hI⟩ := hI
  have e : m_X2_leave_L31 F zX be le me F (nI (5 * p + f)) (nI (sM X (s 0) (s 1))) (nI (sM X p f)) (nI (andn (sM X (s 0) (s 1)) (sM X p f))) (nI 0) (cM s bg 0) ag = m_X2_leave_L31 F zX be le me (n' + 1) (nI (5 * p + f)) (nI (sM X (s 0) (s 1))) (nI (sM X p f)) (nI (andn (sM X (s 0) (s 1)) (sM X p f))) (nI (X 8 0)) _ a' := e
  have hz : ∀ g, g < 6 → a' g = nI (sZero X p f s (8 + g)) := fun g hg => by
    rw [show a' g = _ from hI g hg]; unfold sZero
    simp only [show 8 + g - 8 = g by omega, show (8 ≤ 8 + g) = True by simp, true_and, andn_bit, Bool.and_eq_true, Bool.not_eq_true']
    by_cases h : g < X 8 0
    · simp only [h, show 8 + g < 8 + X 8 0 by omega, true_and]
    · simp only [h, show ¬ 8 + g < 8 + X 8 0 by omega, false_and]
  have hs0 : ∀ j, j < 8 → sZero X p f s j = s j := fun j hj => by unfold sZero; rw [if_neg (by omega)]
  show ∃ ag', m_X2_leave_L31 F zX be le me F (nI (5 * p + f)) (nI (sM X (s 0) (s 1))) (nI (sM X p f)) (nI (andn (sM X (s 0) (s 1)) (sM X p f))) (nI 0) (cM s bg 0) ag = _ ∧ _
  rw [e, u_X2_leave_L31]
  have hle : zX.1 ≤ nI (X 8 0) := by rw [hc.1]; exact nI_le (Nat.le_refl _) (by omega)
  rw [if_pos hle]
  simp only [pl_1]
  rw [pm_andn, pc_clr hF hX hc hgo hco, pn_bd, sClr_eq]
  have hcM : cM s bg (b2n (sCut X (sM X (s 0) (s 1)) (sM X p f) s (X 8 0))) = cM (sZero X p f s) bg (b2n (sCut X (sM X (s 0) (s 1)) (sM X p f) s (X 8 0))) := by
    unfold cM; rw [hs0 0 (by omega), hs0 1 (by omega), hs0 2 (by omega), hs0 3 (by omega), hs0 4 (by omega), hs0 5 (by omega), hs0 6 (by omega), hs0 7 (by omega)]
  by_cases hc0 : sClr X (sM X (s 0) (s 1)) (sM X p f) = 0
  · obtain ⟨ag', e1, e2⟩ := pc_enter hF hX hc (s := sZero X p f s) (bg := bg) (cs := b2n (sCut X (sM X (s 0) (s 1)) (sM X p f) s (X 8 0))) hp hf (by rw [hs0 0 (by omega), hs0 1 (by omega)]; exact h0) hz
    refine ⟨ag', ?_, ?_⟩
    · rw [hc0, if_pos (show nI 0 = 0 from rfl), hcM, e1, pn_bd, if_pos rfl]
      unfold sLeave; rw [if_pos hc0, hs0 0 (by omega), hs0 1 (by omega)]
    · unfold sLeave; rw [if_pos hc0]; exact e2
  · refine ⟨a', ?_, ?_⟩
    · rw [if_neg (show ¬ nI (sClr X (sM X (s 0) (s 1)) (sM X p f)) = 0 from fun h => hc0 ((nI_eq (b := 0) (by omega) (by omega)).mp h)), if_neg hc0]
      unfold sLeave; rw [if_neg hc0]
      unfold cM sU
      simp only [↓reduceIte, Nat.reduceEqDiff, hs0 0 (by omega), hs0 1 (by omega), hs0 2 (by omega), hs0 6 (by omega), hs0 7 (by omega)]
    · intro g hg
      unfold sLeave; rw [if_neg hc0, hz g hg]
      unfold sU
      rw [if_neg (by omega), if_neg (by omega), if_neg (by omega)]
