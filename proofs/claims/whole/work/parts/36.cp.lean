/-! the class's machine: faults -/
theorem mask_ex {m l N : Nat} {K : Nat → Bool} (hN : N ≤ 6) (hm : ∀ b, b < 6 → m.testBit b = K b) (hl : l < 2 ^ N) : (m &&& l = 0) = (nex (fun h => K h && l.testBit h) N = false) := by
  apply propext
  constructor
  · intro h0
    cases hx : nex (fun h => K h && l.testBit h) N
    · rfl
    · obtain ⟨k, hk, h2⟩ := nex_true.mp hx
      have h3 : (m &&& l).testBit k = true := by rw [Nat.testBit_and, hm k (by omega)]; exact h2
      rw [h0, Nat.zero_testBit] at h3
      exact absurd h3 (by decide)
  · intro h0
    apply Nat.eq_of_testBit_eq
    intro i
    rw [Nat.zero_testBit, Nat.testBit_and]
    rcases Nat.lt_or_ge i N with h | h
    · rw [hm i (by omega)]
      cases hx : (K i && l.testBit i)
      · rfl
      · have := (nex_true (c := fun h => K h && l.testBit h)).mpr ⟨i, h, hx⟩
        rw [h0] at this
        exact absurd this (by decide)
    · rw [Nat.testBit_lt_two_pow (Nat.lt_of_lt_of_le hl (Nat.pow_le_pow_right (by decide) h)), Bool.and_false]
theorem pc_soon {F : Nat} {X : Nat → Nat → Nat} {zX : Int32 × Int32} {cl be le mo ph me sh lo : Nat → Int32} (hF : 2000 ≤ F) (hX : xG X) (hc : cX X zX cl be le mo ph me sh lo) {s : Nat → Nat} {zM : Int32 × Int32 × Int32 × Int32 × Int32 × Int32 × Int32 × Int32} {g w : Nat} {ag : Nat → Int32} (hg : g < 6) (hv : ∀ g, g < 6 → s (8 + g) ≤ 31) (ha : ∀ g, g < 6 → ag g = nI (s (8 + g))) : m_X2_beganTooSoon F (nI g) (nI w) zM zX be ag = some (nI (b2n (nex (fun h => w.testBit h && decide (s (8 + h) < X 1 (6 * h + g))) (X 8 0)))) := by
  have hN := hX.2.1
  unfold m_X2_beganTooSoon
  have hR := lpB (L := fun n k (_ : Unit) => m_X2_beganTooSoon_L2 F zM zX be ag n (nI g) (nI w) (nI k)) (N := X 8 0)
    (Inv := fun k _ => nex (fun h => w.testBit h && decide (s (8 + h) < X 1 (6 * h + g))) k = false)
    (Out := fun r => r = some (nI 1) ∧ nex (fun h => w.testBit h && decide (s (8 + h) < X 1 (6 * h + g))) (X 8 0) = true) (by
    intro n k _ hk hi
    show (∃ _ : Unit, m_X2_beganTooSoon_L2 F zM zX be ag (n + 1) (nI g) (nI w) (nI k) = m_X2_beganTooSoon_L2 F zM zX be ag n (nI g) (nI w) (nI (k + 1)) ∧ _) ∨ (m_X2_beganTooSoon_L2 F zM zX be ag (n + 1) (nI g) (nI w) (nI k) = _ ∧ _)
    rw [u_X2_beganTooSoon_L2, hc.1]
    have hb := hc.2.2.1 (6 * k + g) (by omega)
    have hb2 := (hX.2.2.2.1 (6 * k + g) (by omega)).2.1
    have hvk := hv k (by omega)
    cases h1 : w.testBit k
    · left
      refine ⟨(), ?_, ?_⟩
      · simp (disch := omega) only [pl_0, pl_1, pl_2, pl_3, pl_4, pl_5, pl_6, pl_7, pl_8, pl_9, pl_10, pl_11, pl_12, pl_13, pl_14, pl_15, pl_31, nI_add, pk_mul, pn_le, pn_lt, pn_eq, nI_clamp, pn_ck, pn_bd, pn_b0, pn_b1, pn_or, pn_andn, pm_andn, Nat.not_lt_zero, Nat.zero_le, ↓reduceIte, m_X2_beganTooSoon_J46, show ¬ X 8 0 ≤ k by omega, h1]
      · simp only [nex, hi, h1, Bool.false_and, Bool.or_false]
    · by_cases h2 : s (8 + k) < X 1 (6 * k + g)
      · right
        refine ⟨?_, nex_true.mpr ⟨k, hk, by simp only [h1, h2, decide_true, Bool.true_and]⟩⟩
        simp (disch := omega) only [pl_0, pl_1, pl_2, pl_3, pl_4, pl_5, pl_6, pl_7, pl_8, pl_9, pl_10, pl_11, pl_12, pl_13, pl_14, pl_15, pl_31, nI_add, pk_mul, pn_le, pn_lt, pn_eq, nI_clamp, pn_ck, pn_bd, pn_b0, pn_b1, pn_or, pn_andn, pm_andn, Nat.not_lt_zero, Nat.zero_le, ↓reduceIte, m_X2_beganTooSoon_J46, show ¬ X 8 0 ≤ k by omega, h1, Bool.true_eq_false, ha k (by omega), show k * 6 + g = 6 * k + g by omega, hb, show ¬ X 1 (6 * k + g) ≤ s (8 + k) by omega]
      · left
        refine ⟨(), ?_, ?_⟩
        · simp (disch := omega) only [pl_0, pl_1, pl_2, pl_3, pl_4, pl_5, pl_6, pl_7, pl_8, pl_9, pl_10, pl_11, pl_12, pl_13, pl_14, pl_15, pl_31, nI_add, pk_mul, pn_le, pn_lt, pn_eq, nI_clamp, pn_ck, pn_bd, pn_b0, pn_b1, pn_or, pn_andn, pm_andn, Nat.not_lt_zero, Nat.zero_le, ↓reduceIte, m_X2_beganTooSoon_J46, show ¬ X 8 0 ≤ k by omega, h1, Bool.true_eq_false, ha k (by omega), show k * 6 + g = 6 * k + g by omega, hb, show X 1 (6 * k + g) ≤ s (8 + k) by omega]
        · simp only [nex, hi, h2, decide_false, Bool.and_false, Bool.or_false]) (X 8 0) F 0 () (by omega) (by omega) rfl
  simp only [pl_0]
  rcases hR with ⟨n', a', e, hI⟩ | ⟨e, hI⟩
  · have e : m_X2_beganTooSoon_L2 F zM zX be ag F (nI g) (nI w) (nI 0) = m_X2_beganTooSoon_L2 F zM zX be ag (n' + 1) (nI g) (nI w) (nI (X 8 0)) := e
    rw [e, u_X2_beganTooSoon_L2, hI, hc.1]
    simp (disch := omega) only [pl_0, pl_1, pl_2, pl_3, pl_4, pl_5, pl_6, pl_7, pl_8, pl_9, pl_10, pl_11, pl_12, pl_13, pl_14, pl_15, pl_31, nI_add, pk_mul, pn_le, pn_lt, pn_eq, nI_clamp, pn_ck, pn_bd, pn_b0, pn_b1, pn_or, pn_andn, pm_andn, Nat.not_lt_zero, Nat.zero_le, ↓reduceIte, Nat.le_refl]
    rfl
  · have e : m_X2_beganTooSoon_L2 F zM zX be ag F (nI g) (nI w) (nI 0) = some (nI 1) := e
    rw [e, hI]; rfl
def fT (X : Nat → Nat → Nat) (l g : Nat) : Bool := l.testBit g && nex (fun h => X 0 (6 * g + h) == 1 && l.testBit h) (X 8 0)
def fS (X : Nat → Nat → Nat) (l bg : Nat) (s : Nat → Nat) (g : Nat) : Bool := l.testBit g && (bg.testBit g && nex (fun h => (X 0 (6 * g + h) == 1 && !l.testBit h) && decide (s (8 + h) < X 1 (6 * h + g))) (X 8 0))
def fO (X : Nat → Nat → Nat) (l : Nat) (s : Nat → Nat) (g : Nat) : Bool := l.testBit g && (decide (X 3 g < s (8 + g)) && nex (fun h => X 0 (6 * g + h) == 1 && (s 7).testBit h) (X 8 0))
theorem pc_fault {F : Nat} {X : Nat → Nat → Nat} {zX : Int32 × Int32} {cl be le mo ph me sh lo : Nat → Int32} (hF : 2000 ≤ F) (hX : xG X) (hc : cX X zX cl be le mo ph me sh lo) {s : Nat → Nat} {bg : Nat} {c3 : Bool} {ag : Nat → Int32} (h0 : s 0 < X 8 1 ∧ s 1 < X 4 (s 0)) (h4 : s 4 < X 8 1 ∧ s 5 < X 4 (s 4)) (h3 : s 3 ≤ 15) (h7 : s 7 < 2 ^ X 8 0) (hbg : bg < 64) (hv : ∀ g, g < 6 → s (8 + g) ≤ 31) (ha : ∀ g, g < 6 → ag g = nI (s (8 + g))) : m_X2_fault F (cM s bg (b2n c3)) zX cl be mo me ag = some (nI (if nex (fT X (sLit X s)) (X 8 0) then 1 else if nex (fS X (sLit X s) bg s) (X 8 0) then 2 else if c3 then 3 else if nex (fO X (sLit X s) s) (X 8 0) then 4 else 0)) := by
  have hN := hX.2.1
  have hl := lit_lt hX h0.1 h0.2
  have hl64 : sLit X s < 64 := Nat.lt_of_lt_of_le hl (x_64 hX)
  have h764 : s 7 < 64 := Nat.lt_of_lt_of_le h7 (x_64 hX)
  unfold m_X2_fault
  rw [pc_lit hF hX hc h0 h4 h3, pn_bd]
  generalize hlit : sLit X s = lit at *
  obtain ⟨n', a', e, hI⟩ := lpA (L := fun n k (a : Int32 × Int32 × Int32) => m_X2_fault_L15 F (cM s bg (b2n c3)) zX cl be mo me ag n (nI lit) a.1 a.2.1 a.2.2 (nI k)) (N := X 8 0)
    (Inv := fun k a => a = (nI (b2n (nex (fT X lit) k)), nI (b2n (nex (fS X lit bg s) k)), nI (b2n (nex (fO X lit s) k)))) (by
    intro n k a hk hi
    subst hi
    refine ⟨_, ?_, rfl⟩
    show m_X2_fault_L15 F (cM s bg (b2n c3)) zX cl be mo me ag (n + 1) (nI lit) (nI (b2n (nex (fT X lit) k))) (nI (b2n (nex (fS X lit bg s) k))) (nI (b2n (nex (fO X lit s) k))) (nI k) = m_X2_fault_L15 F (cM s bg (b2n c3)) zX cl be mo me ag n (nI lit) (nI (b2n (nex (fT X lit) (k + 1)))) (nI (b2n (nex (fS X lit bg s) (k + 1)))) (nI (b2n (nex (fO X lit s) (k + 1)))) (nI (k + 1))
    simp only [nex]
    generalize nex (fT X lit) k = t
    generalize nex (fS X lit bg s) k = u
    generalize nex (fO X lit s) k = v
    obtain ⟨m, hm1, hm2, hm3⟩ := hc.2.1 k (by omega)
    have hmk := hc.2.2.2.2.1 k (by omega)
    have hmk2 := (hX.2.2.2.2.2.1 k (by omega)).2
    have hvk := hv k (by omega)
    have hak := ha k (by omega)
    generalize hKn : m_X2_fault_L15 F (cM s bg (b2n c3)) zX cl be mo me ag n = kn
    have hJ138 : ∀ x2 x3 x4 : Int32, m_X2_fault_J138 F (cM s bg (b2n c3)) zX cl be mo me ag kn (nI lit) x2 x3 x4 (nI k) = kn (nI lit) x2 x3 x4 (nI (k + 1)) := fun x2 x3 x4 => by
      unfold m_X2_fault_J138; rw [nI_1]
    rw [u_X2_fault_L15, hKn]
    have hzN : ¬ zX.1 ≤ nI k := by rw [hc.1]; exact nI_ge hk (by omega)
    rw [if_neg hzN]
    cases hb : lit.testBit k
    · simp (disch := omega) only [pl_0, pl_1, pl_31, pn_b0, hb, if_true, hJ138, fT, fS, fO, Bool.false_and, Bool.or_false]
    · have hJ96 : ∀ (x2 : Int32) (y0 y1 : Bool), m_X2_fault_J96 F (cM s bg (b2n c3)) zX cl be mo me ag kn (nI lit) x2 (nI (b2n v)) (nI k) (nI m) (nI (b2n y0)) (nI (b2n y1)) = kn (nI lit) x2 (nI (b2n (y1 || y0))) (nI (b2n (v || fO X lit s k))) (nI (k + 1)) := fun x2 y0 y1 => by
        unfold m_X2_fault_J96 m_X2_fault_J134 m_X2_fault_J135
        simp (disch := omega) only [pn_ck, nI_clamp, hak, hmk, pn_le, hJ138, b2n_or, nx_and, pl_0, pl_1]
        have e2 : fO X lit s k = (decide (X 3 k < s (8 + k)) && nex (fun h => X 0 (6 * k + h) == 1 && (s 7).testBit h) (X 8 0)) := by unfold fO; rw [hb, Bool.true_and]
        have e3 := mask_ex (m := m) (l := s 7) (K := fun h => X 0 (6 * k + h) == 1) hN hm3 h7
        have e5 : m &&& s 7 < 64 := Nat.and_lt_two_pow (n := 6) _ h764
        rw [e2]
        simp only [pn_eq (show m &&& s 7 < 2 ^ 31 by omega) (show 0 < 2 ^ 31 by omega), e3]
        by_cases c1 : X 3 k < s (8 + k)
        · rw [if_neg (by omega), decide_eq_true c1, Bool.true_and]
          cases nex (fun h => X 0 (6 * k + h) == 1 && (s 7).testBit h) (X 8 0)
          · rw [if_pos rfl, show nI 0 = nI (b2n false) from rfl, b2n_or]
          · rw [if_neg (by decide), show nI 1 = nI (b2n true) from rfl, b2n_or]
        · rw [if_pos (by omega), decide_eq_false c1, Bool.false_and, show nI 0 = nI (b2n false) from rfl, b2n_or]
      have hJ61 : ∀ (y0 y1 : Bool), m_X2_fault_J61 F (cM s bg (b2n c3)) zX cl be mo me ag kn (nI lit) (nI (b2n u)) (nI (b2n v)) (nI k) (nI m) (nI (b2n y0)) (nI (b2n y1)) = kn (nI lit) (nI (b2n (y1 || y0))) (nI (b2n (u || fS X lit bg s k))) (nI (b2n (v || fO X lit s k))) (nI (k + 1)) := fun y0 y1 => by
        unfold m_X2_fault_J61 m_X2_fault_J95
        simp (disch := omega) only [pl_0, pl_1, pl_31, pn_b0, pm_andn, b2n_or]
        rw [pc_soon hF hX hc (s := s) (by omega) hv ha, pn_bd]
        rw [show nI 0 = nI (b2n false) from rfl, show nI 1 = nI (b2n true) from rfl]
        simp only [hJ96]
        have e2 : fS X lit bg s k = (bg.testBit k && nex (fun h => (andn m lit).testBit h && decide (s (8 + h) < X 1 (6 * h + k))) (X 8 0)) := by
          unfold fS; rw [hb, Bool.true_and]
          congr 1
          exact nex_congr (fun h hh => by rw [andn_bit, hm3 h (by omega)])
        rw [e2]
        cases bg.testBit k
        · simp only [if_true, Bool.false_and]
        · cases nex (fun h => (andn m lit).testBit h && decide (s (8 + h) < X 1 (6 * h + k))) (X 8 0)
          · rw [if_neg (by decide), if_pos rfl]; rfl
          · rw [if_neg (by decide), if_neg (by decide)]; rfl
      simp (disch := omega) only [pl_0, pl_1, pl_31, pn_b0, hb, Bool.true_eq_false, if_false, pn_ck, nI_clamp, hm1]
      have e3 := mask_ex (m := m) (l := lit) (K := fun h => X 0 (6 * k + h) == 1) hN hm3 hl
      have e5 : m &&& lit < 64 := Nat.and_lt_two_pow (n := 6) _ hl64
      simp only [nx_and, pn_eq (show m &&& lit < 2 ^ 31 by omega) (show 0 < 2 ^ 31 by omega), e3]
      have e2 : fT X lit k = nex (fun h => X 0 (6 * k + h) == 1 && lit.testBit h) (X 8 0) := by unfold fT; rw [hb, Bool.true_and]
      rw [show nI 0 = nI (b2n false) from rfl, show nI 1 = nI (b2n true) from rfl, hJ61, hJ61, e2]
      cases nex (fun h => X 0 (6 * k + h) == 1 && lit.testBit h) (X 8 0)
      · rw [if_pos rfl]
      · rw [if_neg (by decide)]) (X 8 0) F 0 (nI 0, nI 0, nI 0) (by omega) (by omega) rfl
  subst hI
  have e : m_X2_fault_L15 F (cM s bg (b2n c3)) zX cl be mo me ag F (nI lit) (nI 0) (nI 0) (nI 0) (nI 0) = m_X2_fault_L15 F (cM s bg (b2n c3)) zX cl be mo me ag (n' + 1) (nI lit) (nI (b2n (nex (fT X lit) (X 8 0)))) (nI (b2n (nex (fS X lit bg s) (X 8 0)))) (nI (b2n (nex (fO X lit s) (X 8 0)))) (nI (X 8 0)) := e
  simp only [pl_0]
  rw [e, u_X2_fault_L15]
  have hzN : zX.1 ≤ nI (X 8 0) := by rw [hc.1]; exact nI_le (Nat.le_refl _) (by omega)
  rw [if_pos hzN]
  simp only [pl_0, pl_1, pl_2, pl_3, pl_4, b2n_0]
  cases nex (fT X lit) (X 8 0) <;> cases nex (fS X lit bg s) (X 8 0) <;> cases c3 <;> cases nex (fO X lit s) (X 8 0) <;> rfl
