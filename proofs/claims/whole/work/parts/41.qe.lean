/-! the reference's machine: a phase ends -/
theorem pq_leave {F : Nat} {X : Nat → Nat → Nat} {zQ : Int32 × Int32 × Int32 × Int32 × Int32 × Int32 × Int32 × Int32 × Int32 × Int32 × Int32} {kl be le mo ph me sh lo : Nat → Int32} (hF : 2000 ≤ F) (hX : xG X) (hq : qX X zQ kl be le mo ph me sh lo) {s : Nat → Nat} {now : Nat → Int32} {p f : Nat} (hp : p < X 8 1) (hf : f < X 4 p) (h0 : s 0 < X 8 1 ∧ s 1 < X 4 (s 0)) (hn : qN s now) : ∃ now', m_X7_end_J137 F zQ kl be ph me (nI p) (nI f) now = some now' ∧ qN (sLeave X p f s) now' := by
  have hN := hX.2.1
  have hcl := clr_le hX (sM X (s 0) (s 1)) (sM X p f)
  have hB : ∀ a b, a < 6 → b < 6 → be (6 * a + b) = nI (X 1 (6 * a + b)) ∧ X 1 (6 * a + b) ≤ 15 ∧ kl (6 * a + b) = nI (X 0 (6 * a + b)) ∧ X 0 (6 * a + b) ≤ 1 ∧ (0 < X 1 (6 * a + b) → X 0 (6 * a + b) = 1) := fun a b ha hb =>
    ⟨hq.2.2.2.1 _ (by omega), (hX.2.2.2.1 _ (by omega)).2.1, hq.2.2.1 _ (by omega), (hX.2.2.2.1 _ (by omega)).1, (hX.2.2.2.1 _ (by omega)).2.2⟩
  unfold m_X7_end_J137
  simp (disch := omega) only [pl_0, pl_1, pl_2, pl_3, pl_4, pl_5, pl_6, pl_7, pl_8, pl_9, pl_10, pl_11, pl_12, pl_13, pl_14, pl_15, pl_31, nI_add, pk_mul, pn_le, pn_lt, pn_eq, nI_clamp, pn_ck, pn_bd, pn_b0, pn_b1, pn_or, pn_andn, pm_andn, Nat.not_lt_zero, Nat.zero_le, ↓reduceIte, hn 0 (by omega), hn 1 (by omega)]
  rw [pq_g hF hX hq h0.1 h0.2, pn_bd, pq_g hF hX hq hp hf, pn_bd]
  have hclr : ∀ o w, nmax (fun a => if o.testBit a = true ∧ w.testBit a = false then nmax (fun b => if w.testBit b = true ∧ o.testBit b = false then X 1 (6 * a + b) else 0) (X 8 0) else 0) (X 8 0) = sClr X o w := fun o w => rfl
  generalize ho : sM X (s 0) (s 1) = o at *
  generalize hw : sM X p f = w at *
  have hfb : ∀ a k, a < 6 → k ≤ 6 → nmax (fun b => if w.testBit b = true ∧ o.testBit b = false then X 1 (6 * a + b) else 0) k ≤ 15 := fun a k ha hk => nmax_le (fun b hb => by
    show (if _ then _ else _) ≤ 15
    split
    · exact (hB a b ha (by omega)).2.1
    · omega)
  have hfa : ∀ k, k ≤ 6 → nmax (fun a => if o.testBit a = true ∧ w.testBit a = false then nmax (fun b => if w.testBit b = true ∧ o.testBit b = false then X 1 (6 * a + b) else 0) (X 8 0) else 0) k ≤ 15 := fun k hk => nmax_le (fun a ha => by
    show (if _ then _ else _) ≤ 15
    split
    · exact hfb a _ (by omega) hN
    · omega)
  -- the inner loop
  have inner : ∀ (k168 : (Int32) → (Int32) → (Int32) → (Int32) → (Int32) → (Int32) → (Nat → Int32) → Option ((Nat → Int32))) (g a : Nat) (nw : Nat → Int32), g ≤ 15 → a < X 8 0 → m_X7_end_L203 F zQ kl be ph me k168 F (nI p) (nI f) (nI o) (nI w) (nI g) (nI a) (nI 0) nw = k168 (nI p) (nI f) (nI o) (nI w) (nI (if g < nmax (fun b => if w.testBit b = true ∧ o.testBit b = false then X 1 (6 * a + b) else 0) (X 8 0) then nmax (fun b => if w.testBit b = true ∧ o.testBit b = false then X 1 (6 * a + b) else 0) (X 8 0) else g)) (nI (a + 1)) (upd nw (8 + a) 0) := by
    intro k168 g a nw hg ha
    obtain ⟨n', a', e, hI⟩ := lpA (L := fun n k acc => m_X7_end_L203 F zQ kl be ph me k168 n (nI p) (nI f) (nI o) (nI w) acc (nI a) (nI k) nw) (N := X 8 0)
      (Inv := fun k acc => acc = nI (if g < nmax (fun b => if w.testBit b = true ∧ o.testBit b = false then X 1 (6 * a + b) else 0) k then nmax (fun b => if w.testBit b = true ∧ o.testBit b = false then X 1 (6 * a + b) else 0) k else g)) (by
      intro n k acc hk hi
      subst hi
      refine ⟨_, ?_, rfl⟩
      show m_X7_end_L203 F zQ kl be ph me k168 (n + 1) (nI p) (nI f) (nI o) (nI w) _ (nI a) (nI k) nw = m_X7_end_L203 F zQ kl be ph me k168 n (nI p) (nI f) (nI o) (nI w) _ (nI a) (nI (k + 1)) nw
      simp only [nmax]
      rw [← mx_step]
      have hm := hfb a k (by omega) (by omega)
      generalize hqq : (if g < nmax (fun b => if w.testBit b = true ∧ o.testBit b = false then X 1 (6 * a + b) else 0) k then nmax (fun b => if w.testBit b = true ∧ o.testBit b = false then X 1 (6 * a + b) else 0) k else g) = q
      have hq2 : q ≤ 15 := by rw [← hqq]; split <;> omega
      obtain ⟨b1, b2, b3, b4, b5⟩ := hB a k (by omega) (by omega)
      rw [u_X7_end_L203, hq.1]
      cases h1 : w.testBit k
      · simp (disch := omega) only [pl_0, pl_1, pl_2, pl_3, pl_4, pl_5, pl_6, pl_7, pl_8, pl_9, pl_10, pl_11, pl_12, pl_13, pl_14, pl_15, pl_31, nI_add, pk_mul, pn_le, pn_lt, pn_eq, nI_clamp, pn_ck, pn_bd, pn_b0, pn_b1, pn_or, pn_andn, pm_andn, Nat.not_lt_zero, Nat.zero_le, ↓reduceIte, m_X7_end_J252, m_X7_end_J253, m_X7_end_J294, m_X7_end_J296, show ¬ X 8 0 ≤ k by omega, h1, Bool.false_eq_true, false_and]
      · cases h2 : o.testBit k
        · by_cases h3 : X 0 (6 * a + k) = 0
          · have h4 : X 1 (6 * a + k) = 0 := by omega
            simp (disch := omega) only [pl_0, pl_1, pl_2, pl_3, pl_4, pl_5, pl_6, pl_7, pl_8, pl_9, pl_10, pl_11, pl_12, pl_13, pl_14, pl_15, pl_31, nI_add, pk_mul, pn_le, pn_lt, pn_eq, nI_clamp, pn_ck, pn_bd, pn_b0, pn_b1, pn_or, pn_andn, pm_andn, Nat.not_lt_zero, Nat.zero_le, ↓reduceIte, m_X7_end_J252, m_X7_end_J253, m_X7_end_J294, m_X7_end_J296, show ¬ X 8 0 ≤ k by omega, h1, h2, b3, h3, h4, and_self]
          · simp (disch := omega) only [pl_0, pl_1, pl_2, pl_3, pl_4, pl_5, pl_6, pl_7, pl_8, pl_9, pl_10, pl_11, pl_12, pl_13, pl_14, pl_15, pl_31, nI_add, pk_mul, pn_le, pn_lt, pn_eq, nI_clamp, pn_ck, pn_bd, pn_b0, pn_b1, pn_or, pn_andn, pm_andn, Nat.not_lt_zero, Nat.zero_le, ↓reduceIte, m_X7_end_J252, m_X7_end_J253, m_X7_end_J294, m_X7_end_J296, show ¬ X 8 0 ≤ k by omega, h1, h2, b3, h3, b1, and_self, Nat.one_ne_zero]
            by_cases h5 : q < X 1 (6 * a + k)
            · simp only [h5, show ¬ X 1 (6 * a + k) ≤ q by omega, ↓reduceIte]
            · simp only [h5, show X 1 (6 * a + k) ≤ q by omega, ↓reduceIte]
        · simp (disch := omega) only [pl_0, pl_1, pl_2, pl_3, pl_4, pl_5, pl_6, pl_7, pl_8, pl_9, pl_10, pl_11, pl_12, pl_13, pl_14, pl_15, pl_31, nI_add, pk_mul, pn_le, pn_lt, pn_eq, nI_clamp, pn_ck, pn_bd, pn_b0, pn_b1, pn_or, pn_andn, pm_andn, Nat.not_lt_zero, Nat.zero_le, ↓reduceIte, m_X7_end_J252, m_X7_end_J253, m_X7_end_J294, m_X7_end_J296, show ¬ X 8 0 ≤ k by omega, h1, h2, Bool.true_eq_false, and_false]) (X 8 0) F 0 (nI g) (by omega) (by omega) (by rw [show nmax _ 0 = 0 from rfl, mx0])
    have e : m_X7_end_L203 F zQ kl be ph me k168 F (nI p) (nI f) (nI o) (nI w) (nI g) (nI a) (nI 0) nw = m_X7_end_L203 F zQ kl be ph me k168 (n' + 1) (nI p) (nI f) (nI o) (nI w) a' (nI a) (nI (X 8 0)) nw := e
    rw [e, hI, u_X7_end_L203, hq.1]
    simp (disch := omega) only [pl_0, pl_1, pl_2, pl_3, pl_4, pl_5, pl_6, pl_7, pl_8, pl_9, pl_10, pl_11, pl_12, pl_13, pl_14, pl_15, pl_31, nI_add, pk_mul, pn_le, pn_lt, pn_eq, nI_clamp, pn_ck, pn_bd, pn_b0, pn_b1, pn_or, pn_andn, pm_andn, Nat.not_lt_zero, Nat.zero_le, ↓reduceIte, Nat.le_refl, m_X7_end_J315]
  obtain ⟨n', a', e, hI⟩ := lpA (L := fun n k (a : Int32 × (Nat → Int32)) => m_X7_end_L168 F zQ kl be ph me n (nI p) (nI f) (nI o) (nI w) a.1 (nI k) a.2) (N := X 8 0)
    (Inv := fun k a => a.1 = nI (nmax (fun a => if o.testBit a = true ∧ w.testBit a = false then nmax (fun b => if w.testBit b = true ∧ o.testBit b = false then X 1 (6 * a + b) else 0) (X 8 0) else 0) k) ∧ ∀ i, i < 14 → a.2 i = nI (if 8 ≤ i ∧ i < 8 + k ∧ o.testBit (i - 8) = true ∧ w.testBit (i - 8) = false then 0 else s i)) (by
    intro n k a hk hi
    obtain ⟨cl, a⟩ := a
    obtain ⟨rfl, hi⟩ := hi
    have hi : ∀ i, i < 14 → a i = nI (if 8 ≤ i ∧ i < 8 + k ∧ o.testBit (i - 8) = true ∧ w.testBit (i - 8) = false then 0 else s i) := hi
    have hm := hfa k (by omega)
    have hst : ∀ a2 : Nat → Int32, (∀ i, i < 14 → a2 i = if i = 8 + k then nI (if o.testBit k = true ∧ w.testBit k = false then 0 else s (8 + k)) else a i) → ∀ i, i < 14 → a2 i = nI (if 8 ≤ i ∧ i < 8 + (k + 1) ∧ o.testBit (i - 8) = true ∧ w.testBit (i - 8) = false then 0 else s i) := fun a2 h2 i hi2 => by
      rw [h2 i hi2]
      by_cases h : i = 8 + k
      · subst h; rw [if_pos rfl, show 8 + k - 8 = k by omega]
        simp only [show (8 ≤ 8 + k) = True by simp, show (8 + k < 8 + (k + 1)) = True by simp, true_and]
      · rw [if_neg h, hi i hi2]
        by_cases h3 : i < 8 + k
        · simp only [h3, show i < 8 + (k + 1) by omega, true_and]
        · simp only [h3, show ¬ i < 8 + (k + 1) by omega, false_and, and_false]
    have hak : a (8 + k) = nI (s (8 + k)) := by rw [hi (8 + k) (by omega), if_neg (by omega)]
    show ∃ a' : Int32 × (Nat → Int32), m_X7_end_L168 F zQ kl be ph me (n + 1) (nI p) (nI f) (nI o) (nI w) (nI (nmax (fun a => if o.testBit a = true ∧ w.testBit a = false then nmax (fun b => if w.testBit b = true ∧ o.testBit b = false then X 1 (6 * a + b) else 0) (X 8 0) else 0) k)) (nI k) a = m_X7_end_L168 F zQ kl be ph me n (nI p) (nI f) (nI o) (nI w) a'.1 (nI (k + 1)) a'.2 ∧ a'.1 = _ ∧ ∀ i, i < 14 → a'.2 i = _
    rw [u_X7_end_L168, hq.1]
    simp only [nmax]
    generalize hcq : nmax (fun a => if o.testBit a = true ∧ w.testBit a = false then nmax (fun b => if w.testBit b = true ∧ o.testBit b = false then X 1 (6 * a + b) else 0) (X 8 0) else 0) k = cq at *
    cases h1 : o.testBit k
    · refine ⟨(nI cq, a), ?_, ?_, hst a (fun i hi2 => ?_)⟩
      · simp (disch := omega) only [pl_0, pl_1, pl_2, pl_3, pl_4, pl_5, pl_6, pl_7, pl_8, pl_9, pl_10, pl_11, pl_12, pl_13, pl_14, pl_15, pl_31, nI_add, pk_mul, pn_le, pn_lt, pn_eq, nI_clamp, pn_ck, pn_bd, pn_b0, pn_b1, pn_or, pn_andn, pm_andn, Nat.not_lt_zero, Nat.zero_le, ↓reduceIte, m_X7_end_J315, show ¬ X 8 0 ≤ k by omega, h1]
      · simp only [Bool.false_eq_true, false_and, ↓reduceIte, Nat.not_lt_zero]
      · by_cases h : i = 8 + k
        · rw [if_pos h, h, hak, h1]; rfl
        · rw [if_neg h]
    · cases h2 : w.testBit k
      · refine ⟨(nI (if cq < nmax (fun b => if w.testBit b = true ∧ o.testBit b = false then X 1 (6 * k + b) else 0) (X 8 0) then nmax (fun b => if w.testBit b = true ∧ o.testBit b = false then X 1 (6 * k + b) else 0) (X 8 0) else cq), upd a (8 + k) 0), ?_, ?_, hst (upd a (8 + k) 0) (fun i hi2 => ?_)⟩
        · simp (disch := omega) only [pl_0, pl_1, pl_2, pl_3, pl_4, pl_5, pl_6, pl_7, pl_8, pl_9, pl_10, pl_11, pl_12, pl_13, pl_14, pl_15, pl_31, nI_add, pk_mul, pn_le, pn_lt, pn_eq, nI_clamp, pn_ck, pn_bd, pn_b0, pn_b1, pn_or, pn_andn, pm_andn, Nat.not_lt_zero, Nat.zero_le, ↓reduceIte, m_X7_end_J315, show ¬ X 8 0 ≤ k by omega, h1, h2, Bool.true_eq_false, Bool.false_eq_true]
          rw [inner _ cq k a hm hk]; rfl
        · simp only [and_self, ↓reduceIte]
        · by_cases h : i = 8 + k
          · rw [if_pos h, h, upd_same, h1, h2]; rfl
          · rw [if_neg h, upd_ne h]
      · refine ⟨(nI cq, a), ?_, ?_, hst a (fun i hi2 => ?_)⟩
        · simp (disch := omega) only [pl_0, pl_1, pl_2, pl_3, pl_4, pl_5, pl_6, pl_7, pl_8, pl_9, pl_10, pl_11, pl_12, pl_13, pl_14, pl_15, pl_31, nI_add, pk_mul, pn_le, pn_lt, pn_eq, nI_clamp, pn_ck, pn_bd, pn_b0, pn_b1, pn_or, pn_andn, pm_andn, Nat.not_lt_zero, Nat.zero_le, ↓reduceIte, m_X7_end_J315, show ¬ X 8 0 ≤ k by omega, h1, h2, Bool.true_eq_false]
        · simp only [Bool.true_eq_false, and_false, ↓reduceIte, Nat.not_lt_zero]
        · by_cases h : i = 8 + k
          · rw [if_pos h, h, hak, h1, h2]; rfl
          · rw [if_neg h]) (X 8 0) F 0 (nI 0, now) (by omega) (by omega) ⟨rfl, fun i hi => (hn i hi).trans (by rw [if_neg (by omega)])⟩
  obtain ⟨cl, a'⟩ := a'
  obtain ⟨rfl, hI⟩ := hI
  have hI : ∀ i, i < 14 → a' i = nI (if 8 ≤ i ∧ i < 8 + X 8 0 ∧ o.testBit (i - 8) = true ∧ w.testBit (i - 8) = false then 0 else s i) := hI
  have hz : ∀ i, i < 14 → a' i = nI (sZero X p f s i) := fun i hi => by
    rw [hI i hi]; unfold sZero; rw [ho, hw]
  have e : m_X7_end_L168 F zQ kl be ph me F (nI p) (nI f) (nI o) (nI w) (nI 0) (nI 0) now = m_X7_end_L168 F zQ kl be ph me (n' + 1) (nI p) (nI f) (nI o) (nI w) (nI (sClr X o w)) (nI (X 8 0)) a' := e
  rw [e, u_X7_end_L168, hq.1]
  simp (disch := omega) only [pl_0, pl_1, pl_2, pl_3, pl_4, pl_5, pl_6, pl_7, pl_8, pl_9, pl_10, pl_11, pl_12, pl_13, pl_14, pl_15, pl_31, nI_add, pk_mul, pn_le, pn_lt, pn_eq, nI_clamp, pn_ck, pn_bd, pn_b0, pn_b1, pn_or, pn_andn, pm_andn, Nat.not_lt_zero, Nat.zero_le, ↓reduceIte, Nat.le_refl]
  have hu : qN (sU (sU (sU (sZero X p f s) 4 p) 5 f) 3 (sClr X o w)) (upd (upd (upd a' 4 (nI p)) 5 (nI f)) 3 (nI (sClr X o w))) := fun i hi => by
    unfold upd sU
    by_cases h3 : i = 3
    · simp only [h3, ↓reduceIte]
    · by_cases h5 : i = 5
      · simp only [h5, ↓reduceIte, Nat.reduceEqDiff]
      · by_cases h4 : i = 4
        · simp only [h4, ↓reduceIte, Nat.reduceEqDiff]
        · simp only [h3, h4, h5, ↓reduceIte]; exact hz i hi
  by_cases hc0 : sClr X o w = 0
  · rw [if_pos hc0]
    obtain ⟨nw, e1, e2⟩ := pq_comes hF hX hq (s := sU (sU (sU (sZero X p f s) 4 p) 5 f) 3 (sClr X o w)) (by
      show sZero X p f s 0 < _ ∧ sZero X p f s 1 < X 4 (sZero X p f s 0)
      rw [sZero_lo X p f s (by omega), sZero_lo X p f s (by omega)]; exact h0) ⟨hp, hf⟩ hu
    refine ⟨nw, by rw [e1, pn_bd], fun i hi => ?_⟩
    rw [e2 i hi]
    congr 1
    unfold sLeave
    rw [ho, hw, if_pos hc0]
    show sEnter X p f _ i = _
    unfold sEnter
    by_cases h6 : i < 6
    · simp only [h6, ↓reduceIte]
    · have e3 : ∀ j, 6 ≤ j → sU (sU (sU (sZero X p f s) 4 p) 5 f) 3 (sClr X o w) j = sZero X p f s j := fun j hj => by
        unfold sU; rw [if_neg (by omega), if_neg (by omega), if_neg (by omega)]
      rw [e3 i (by omega), e3 7 (by omega)]; rfl
  · rw [if_neg hc0]
    refine ⟨_, rfl, fun i hi => ?_⟩
    rw [hu i hi]
    congr 1
    unfold sLeave
    rw [ho, hw, if_neg hc0]
    unfold sU
    by_cases h3 : i = 3
    · simp only [h3, ↓reduceIte, Nat.reduceEqDiff]
    · by_cases h5 : i = 5
      · simp only [h5, ↓reduceIte, Nat.reduceEqDiff]
      · by_cases h4 : i = 4
        · simp only [h4, ↓reduceIte, Nat.reduceEqDiff]
        · simp only [h3, h4, h5, ↓reduceIte]
theorem pq_end {F : Nat} {X : Nat → Nat → Nat} {zQ : Int32 × Int32 × Int32 × Int32 × Int32 × Int32 × Int32 × Int32 × Int32 × Int32 × Int32} {kl be le mo ph me sh lo : Nat → Int32} (hF : 2000 ≤ F) (hX : xG X) (hq : qX X zQ kl be le mo ph me sh lo) {s : Nat → Nat} {now : Nat → Int32} (hs : sV X s) (hn : qN s now) : ∃ now', m_X7_end F zQ kl be ph me now = some now' ∧ qN (if s 6 = s 0 ∧ sNxF X s = s 1 then s else sLeave X (s 6) (sNxF X s) s) now' := by
  obtain ⟨⟨h0, h1⟩, -, -, -, h6, h7, -⟩ := hs
  have hP := hX.2.2.1
  have h764 : s 7 < 64 := Nat.lt_of_lt_of_le h7 (x_64 hX)
  have hnf := nxF_lt hX h0 h6
  have hG5 := (hX.2.2.2.2.2.2 (s 6) h6).2.1
  obtain ⟨hF1, hF5, -⟩ := hX.2.2.2.2.2.2 (s 0) h0
  have h116 : ∃ now', m_X7_end_J116 F zQ kl be ph me (nI (s 6)) (nI (sNxF X s)) now = some now' ∧ qN (if s 6 = s 0 ∧ sNxF X s = s 1 then s else sLeave X (s 6) (sNxF X s) s) now' := by
    unfold m_X7_end_J116
    simp (disch := omega) only [pl_0, pl_1, pl_2, pl_3, pl_4, pl_5, pl_6, pl_7, pl_8, pl_9, pl_10, pl_11, pl_12, pl_13, pl_14, pl_15, pl_31, nI_add, pk_mul, pn_le, pn_lt, pn_eq, nI_clamp, pn_ck, pn_bd, pn_b0, pn_b1, pn_or, pn_andn, pm_andn, Nat.not_lt_zero, Nat.zero_le, ↓reduceIte, hn 0 (by omega), hn 1 (by omega)]
    by_cases c1 : s 6 = s 0
    · by_cases c2 : sNxF X s = s 1
      · simp only [c1, c2, and_self, ↓reduceIte]
        exact ⟨now, rfl, hn⟩
      · simp only [c1, c2, and_false, ↓reduceIte]
        rw [← c1]
        exact pq_leave hF hX hq h6 hnf ⟨h0, h1⟩ hn
    · simp only [c1, false_and, ↓reduceIte]
      exact pq_leave hF hX hq h6 hnf ⟨h0, h1⟩ hn
  unfold m_X7_end
  simp (disch := omega) only [pl_0, pl_1, pl_2, pl_3, pl_4, pl_5, pl_6, pl_7, pl_8, pl_9, pl_10, pl_11, pl_12, pl_13, pl_14, pl_15, pl_31, nI_add, pk_mul, pn_le, pn_lt, pn_eq, nI_clamp, pn_ck, pn_bd, pn_b0, pn_b1, pn_or, pn_andn, pm_andn, Nat.not_lt_zero, Nat.zero_le, ↓reduceIte, hn 0 (by omega), hn 1 (by omega), hn 6 (by omega)]
  by_cases c1 : s 6 = s 0
  · rw [if_pos c1]
    have hph := hq.2.2.2.2.2.2.1 (s 0) h0
    have e1 : sNxF X s = sNf X (s 0) (s 1) (s 7) := by unfold sNxF; rw [if_pos c1]
    have hJ82 : ∀ b, 1 ≤ b → b ≤ 5 → m_X7_end_J82 F zQ kl be ph me (nI (s 0)) (nI (s 1)) (nI b) now = m_X7_end_J116 F zQ kl be ph me (nI (s 0)) (nI (if b < X 4 (s 0) then (s 1 + b) % X 4 (s 0) else (s 1 + 1) % X 4 (s 0))) now := fun b hb hb5 => by
      unfold m_X7_end_J82 m_X7_end_J115
      simp (disch := omega) only [pn_ck, nI_clamp, hph, pn_le, pn_dz, pl_1, nI_add, pk_rem]
      by_cases c2 : b < X 4 (s 0)
      · rw [if_neg (by omega), if_pos c2]
      · rw [if_pos (by omega), if_neg c2]
    have hR := lpB (L := fun n k (_ : Unit) => m_X7_end_L40 F zQ kl be ph me n (nI (s 0)) (nI (s 1)) (nI k) now) (N := X 4 (s 0))
      (Inv := fun k _ => 1 ≤ k ∧ ∀ b, 1 ≤ b → b < k → ((sM X (s 0) ((s 1 + b) % X 4 (s 0)) &&& s 7) != 0) = false)
      (Out := fun r => r = m_X7_end_J116 F zQ kl be ph me (nI (s 0)) (nI (sNf X (s 0) (s 1) (s 7))) now) (by
      intro n k _ hk hi
      obtain ⟨hk1, hb⟩ := hi
      show (∃ _ : Unit, m_X7_end_L40 F zQ kl be ph me (n + 1) (nI (s 0)) (nI (s 1)) (nI k) now = m_X7_end_L40 F zQ kl be ph me n (nI (s 0)) (nI (s 1)) (nI (k + 1)) now ∧ _) ∨ (m_X7_end_L40 F zQ kl be ph me (n + 1) (nI (s 0)) (nI (s 1)) (nI k) now = _)
      rw [u_X7_end_L40]
      simp (disch := omega) only [pn_ck, nI_clamp, hph, pn_le, pn_dz, pl_7, pl_0, pl_1, nI_add, pk_rem, show ¬ X 4 (s 0) ≤ k by omega, ↓reduceIte]
      rw [pq_g hF hX hq h0 (Nat.mod_lt _ (by omega)), pn_bd, hn 7 (by omega), nx_and]
      have hlt : sM X (s 0) ((s 1 + k) % X 4 (s 0)) &&& s 7 < 64 := Nat.and_lt_two_pow (n := 6) _ h764
      simp only [pn_eq (show sM X (s 0) ((s 1 + k) % X 4 (s 0)) &&& s 7 < 2 ^ 31 by omega) (show 0 < 2 ^ 31 by omega)]
      by_cases hz : sM X (s 0) ((s 1 + k) % X 4 (s 0)) &&& s 7 = 0
      · left
        refine ⟨(), by rw [if_pos hz], by omega, fun b h1 h2 => ?_⟩
        by_cases hbk : b = k
        · subst hbk; simp [hz]
        · exact hb b h1 (by omega)
      · right
        have hby : sNb X (s 0) (s 1) (s 7) = k := nby_found (fun j h1 h2 => hb j h1 h2) (by simp [hz]) (by omega) (by omega)
        rw [if_neg hz, hJ82 k hk1 (by omega)]
        unfold sNf; rw [hby]) (X 4 (s 0) - 1) F 1 () (by omega) (by omega) ⟨by omega, fun b h1 h2 => by omega⟩
    have hfin : m_X7_end_L40 F zQ kl be ph me F (nI (s 0)) (nI (s 1)) (nI 1) now = m_X7_end_J116 F zQ kl be ph me (nI (s 0)) (nI (sNf X (s 0) (s 1) (s 7))) now := by
      rcases hR with ⟨n', _, e, hk1, hb⟩ | e
      · have e : m_X7_end_L40 F zQ kl be ph me F (nI (s 0)) (nI (s 1)) (nI 1) now = m_X7_end_L40 F zQ kl be ph me (n' + 1) (nI (s 0)) (nI (s 1)) (nI (X 4 (s 0))) now := e
        rw [e, u_X7_end_L40]
        simp (disch := omega) only [pn_ck, nI_clamp, hph, pn_le, Nat.le_refl, ↓reduceIte]
        rw [hJ82 _ hF1 hF5]
        have hby : sNb X (s 0) (s 1) (s 7) = 1 + (X 4 (s 0) - 1) := nby_none (fun j h1 h2 => hb j h1 (by omega))
        unfold sNf; rw [hby, show 1 + (X 4 (s 0) - 1) = X 4 (s 0) by omega]
      · exact e
    rw [hfin, ← e1]
    rw [c1] at h116 ⊢
    exact h116
  · rw [if_neg c1]
    have e1 : sNxF X s = 0 := by unfold sNxF; rw [if_neg c1]
    rw [e1] at h116 ⊢
    exact h116
