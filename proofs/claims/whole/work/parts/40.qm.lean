/-! the reference's machine does what the numbers say -/
def qX (X : Nat → Nat → Nat) (zQ : Int32 × Int32 × Int32 × Int32 × Int32 × Int32 × Int32 × Int32 × Int32 × Int32 × Int32) (kl be le mo ph me sh lo : Nat → Int32) : Prop :=
  zQ.2.1 = nI (X 8 0) ∧ zQ.2.2.1 = nI (X 8 1) ∧ (∀ i, i < 36 → kl i = nI (X 0 i)) ∧ (∀ i, i < 36 → be i = nI (X 1 i)) ∧ (∀ g, g < 6 → le g = nI (X 2 g)) ∧ (∀ g, g < 6 → mo g = nI (X 3 g)) ∧ (∀ p, p < X 8 1 → ph p = nI (X 4 p)) ∧
  (∀ p, p < X 8 1 → ∀ f, f < X 4 p → me (5 * p + f) = nI (X 5 (5 * p + f)) ∧ sh (5 * p + f) = nI (X 6 (5 * p + f)) ∧ lo (5 * p + f) = nI (X 7 (5 * p + f)))
def qN (s : Nat → Nat) (now : Nat → Int32) : Prop := ∀ i, i < 14 → now i = nI (s i)
/-- a loop that looks for a number -/
theorem lpS {γ : Type} {L : Nat → Nat → γ} {N : Nat} {c : Nat → Bool} {r : γ} (hs : ∀ n k, k < N → L (n + 1) k = if c k then r else L n (k + 1)) {n : Nat} (hn : N < n) : ∃ n', L n 0 = if nex c N then r else L (n' + 1) N := by
  have key : ∀ k, k ≤ N → (nex c k = true → L n 0 = r) ∧ (nex c k = false → L n 0 = L (n - k) k) := by
    intro k
    induction k with
    | zero => intro _; exact ⟨fun h => absurd (show false = true from h) (by decide), fun _ => rfl⟩
    | succ k ih =>
      intro hk
      obtain ⟨h1, h2⟩ := ih (by omega)
      have h3 := hs (n - k - 1) k (by omega)
      rw [show n - k - 1 + 1 = n - k by omega] at h3
      simp only [nex]
      cases hx : nex c k
      · rw [Bool.false_or]
        have h4 := h2 hx
        rw [h3] at h4
        constructor
        · intro h; rw [h] at h4; exact h4
        · intro h; rw [h] at h4; exact h4
      · rw [Bool.true_or]
        exact ⟨fun _ => h1 hx, fun h => absurd h (by decide)⟩
  obtain ⟨h1, h2⟩ := key N (Nat.le_refl _)
  refine ⟨n - N - 1, ?_⟩
  rw [show n - N - 1 + 1 = n - N by omega]
  cases hx : nex c N
  · exact h2 hx
  · exact h1 hx
theorem pq_g {F : Nat} {X : Nat → Nat → Nat} {zQ : Int32 × Int32 × Int32 × Int32 × Int32 × Int32 × Int32 × Int32 × Int32 × Int32 × Int32} {kl be le mo ph me sh lo : Nat → Int32} (hF : 2000 ≤ F) (hX : xG X) (hq : qX X zQ kl be le mo ph me sh lo) {p f : Nat} (hp : p < X 8 1) (hf : f < X 4 p) : m_X7_groupsOf F (nI p) (nI f) zQ me = some (nI (sM X p f)) := by
  have h15 := x_pl hX hp hf
  unfold m_X7_groupsOf
  simp (disch := omega) only [pl_0, pl_1, pl_2, pl_3, pl_4, pl_5, pl_6, pl_7, pl_8, pl_9, pl_10, pl_11, pl_12, pl_13, pl_14, pl_15, pl_31, nI_add, pk_mul, pn_le, pn_lt, pn_eq, nI_clamp, pn_ck, pn_bd, pn_b0, pn_b1, pn_or, pn_andn, pm_andn, Nat.not_lt_zero, Nat.zero_le, ↓reduceIte, (hq.2.2.2.2.2.2.2 p hp f hf).1]
  rfl
theorem pq_shown {F : Nat} {X : Nat → Nat → Nat} {zQ : Int32 × Int32 × Int32 × Int32 × Int32 × Int32 × Int32 × Int32 × Int32 × Int32 × Int32} {kl be le mo ph me sh lo : Nat → Int32} (hF : 2000 ≤ F) (hX : xG X) (hq : qX X zQ kl be le mo ph me sh lo) {s : Nat → Nat} {now : Nat → Int32} (h0 : s 0 < X 8 1 ∧ s 1 < X 4 (s 0)) (h4 : s 4 < X 8 1 ∧ s 5 < X 4 (s 4)) (h3 : s 3 ≤ 15) (hn : qN s now) : m_X7_shownNow F zQ me now = some (nI (sLit X s)) := by
  unfold m_X7_shownNow sLit
  simp (disch := omega) only [pl_0, pl_1, pl_2, pl_3, pl_4, pl_5, pl_6, pl_7, pl_8, pl_9, pl_10, pl_11, pl_12, pl_13, pl_14, pl_15, pl_31, nI_add, pk_mul, pn_le, pn_lt, pn_eq, nI_clamp, pn_ck, pn_bd, pn_b0, pn_b1, pn_or, pn_andn, pm_andn, Nat.not_lt_zero, Nat.zero_le, ↓reduceIte, hn 0 (by omega), hn 1 (by omega), hn 3 (by omega), hn 4 (by omega), hn 5 (by omega)]
  rw [pq_g hF hX hq h0.1 h0.2, pn_bd, pq_g hF hX hq h4.1 h4.2, pn_bd, nx_and]
  by_cases h : s 3 = 0
  · rw [if_pos (by omega), if_pos h]
  · rw [if_neg (by omega), if_neg h]
theorem i14 {P : Nat → Prop} (h : P 0 ∧ P 1 ∧ P 2 ∧ P 3 ∧ P 4 ∧ P 5 ∧ P 6 ∧ P 7) (h8 : ∀ g, g < 6 → P (8 + g)) : ∀ i, i < 14 → P i := by
  obtain ⟨h0, h1, h2, h3, h4, h5, h6, h7⟩ := h
  intro i hi
  rcases Nat.lt_or_ge i 8 with h | h
  · match i, h with
    | 0, _ => exact h0
    | 1, _ => exact h1
    | 2, _ => exact h2
    | 3, _ => exact h3
    | 4, _ => exact h4
    | 5, _ => exact h5
    | 6, _ => exact h6
    | 7, _ => exact h7
  · have := h8 (i - 8) (by omega)
    rw [show 8 + (i - 8) = i by omega] at this; exact this
theorem pq_comes {F : Nat} {X : Nat → Nat → Nat} {zQ : Int32 × Int32 × Int32 × Int32 × Int32 × Int32 × Int32 × Int32 × Int32 × Int32 × Int32} {kl be le mo ph me sh lo : Nat → Int32} (hF : 2000 ≤ F) (hX : xG X) (hq : qX X zQ kl be le mo ph me sh lo) {s : Nat → Nat} {now : Nat → Int32} (h0 : s 0 < X 8 1 ∧ s 1 < X 4 (s 0)) (h4 : s 4 < X 8 1 ∧ s 5 < X 4 (s 4)) (hn : qN s now) : ∃ now', m_X7_comes F zQ me now = some now' ∧ qN (sEnter X (s 4) (s 5) s) now' := by
  have hN := hX.2.1
  have hP := hX.2.2.1
  have hh := x_m64 hX h4.1 h4.2
  unfold m_X7_comes
  simp (disch := omega) only [pl_0, pl_1, pl_2, pl_3, pl_4, pl_5, pl_6, pl_7, pl_8, pl_9, pl_10, pl_11, pl_12, pl_13, pl_14, pl_15, pl_31, nI_add, pk_mul, pn_le, pn_lt, pn_eq, nI_clamp, pn_ck, pn_bd, pn_b0, pn_b1, pn_or, pn_andn, pm_andn, Nat.not_lt_zero, Nat.zero_le, ↓reduceIte, hn 0 (by omega), hn 1 (by omega), hn 4 (by omega), hn 5 (by omega)]
  rw [pq_g hF hX hq h0.1 h0.2, pn_bd, pq_g hF hX hq h4.1 h4.2, pn_bd]
  generalize ho : sM X (s 0) (s 1) = o at *
  generalize hnw : sM X (s 4) (s 5) = w at *
  obtain ⟨n', a', e, hI⟩ := lpA (L := fun n k a => m_X7_comes_L42 F zQ me n (nI (s 4)) (nI (s 5)) (nI o) (nI w) (nI k) a) (N := X 8 0)
    (Inv := fun k a => ∀ i, i < 14 → a i = nI (if 8 ≤ i ∧ i < 8 + k ∧ w.testBit (i - 8) = true ∧ o.testBit (i - 8) = false then 0 else s i)) (by
    intro n k a hk hi
    show ∃ a', m_X7_comes_L42 F zQ me (n + 1) (nI (s 4)) (nI (s 5)) (nI o) (nI w) (nI k) a = m_X7_comes_L42 F zQ me n (nI (s 4)) (nI (s 5)) (nI o) (nI w) (nI (k + 1)) a' ∧ _
    rw [u_X7_comes_L42, hq.1]
    have hst : ∀ a2 : Nat → Int32, (∀ i, i < 14 → a2 i = if i = 8 + k then nI (if w.testBit k = true ∧ o.testBit k = false then 0 else s (8 + k)) else a i) → ∀ i, i < 14 → a2 i = nI (if 8 ≤ i ∧ i < 8 + (k + 1) ∧ w.testBit (i - 8) = true ∧ o.testBit (i - 8) = false then 0 else s i) := fun a2 h2 i hi2 => by
      rw [h2 i hi2]
      by_cases h : i = 8 + k
      · subst h; rw [if_pos rfl, show 8 + k - 8 = k by omega]
        simp only [show (8 ≤ 8 + k) = True by simp, show (8 + k < 8 + (k + 1)) = True by simp, true_and]
      · rw [if_neg h, hi i hi2]
        by_cases h3 : i < 8 + k
        · simp only [h3, show i < 8 + (k + 1) by omega, true_and]
        · simp only [h3, show ¬ i < 8 + (k + 1) by omega, false_and, and_false]
    have hak : a (8 + k) = nI (s (8 + k)) := by rw [hi (8 + k) (by omega), if_neg (by omega)]
    cases h1 : w.testBit k
    · refine ⟨a, ?_, hst a (fun i hi2 => ?_)⟩
      · simp (disch := omega) only [pl_0, pl_1, pl_2, pl_3, pl_4, pl_5, pl_6, pl_7, pl_8, pl_9, pl_10, pl_11, pl_12, pl_13, pl_14, pl_15, pl_31, nI_add, pk_mul, pn_le, pn_lt, pn_eq, nI_clamp, pn_ck, pn_bd, pn_b0, pn_b1, pn_or, pn_andn, pm_andn, Nat.not_lt_zero, Nat.zero_le, ↓reduceIte, m_X7_comes_J82, show ¬ X 8 0 ≤ k by omega, h1, Bool.false_eq_true]
      · by_cases h : i = 8 + k
        · rw [if_pos h, h, hak, h1]; rfl
        · rw [if_neg h]
    · cases h2 : o.testBit k
      · refine ⟨upd a (8 + k) 0, ?_, hst _ (fun i hi2 => ?_)⟩
        · simp (disch := omega) only [pl_0, pl_1, pl_2, pl_3, pl_4, pl_5, pl_6, pl_7, pl_8, pl_9, pl_10, pl_11, pl_12, pl_13, pl_14, pl_15, pl_31, nI_add, pk_mul, pn_le, pn_lt, pn_eq, nI_clamp, pn_ck, pn_bd, pn_b0, pn_b1, pn_or, pn_andn, pm_andn, Nat.not_lt_zero, Nat.zero_le, ↓reduceIte, m_X7_comes_J82, show ¬ X 8 0 ≤ k by omega, h1, h2]
        · by_cases h : i = 8 + k
          · rw [if_pos h, h, upd_same, h1, h2]; rfl
          · rw [if_neg h, upd_ne h]
      · refine ⟨a, ?_, hst a (fun i hi2 => ?_)⟩
        · simp (disch := omega) only [pl_0, pl_1, pl_2, pl_3, pl_4, pl_5, pl_6, pl_7, pl_8, pl_9, pl_10, pl_11, pl_12, pl_13, pl_14, pl_15, pl_31, nI_add, pk_mul, pn_le, pn_lt, pn_eq, nI_clamp, pn_ck, pn_bd, pn_b0, pn_b1, pn_or, pn_andn, pm_andn, Nat.not_lt_zero, Nat.zero_le, ↓reduceIte, m_X7_comes_J82, show ¬ X 8 0 ≤ k by omega, h1, h2, Bool.true_eq_false]
        · by_cases h : i = 8 + k
          · rw [if_pos h, h, hak, h1, h2]; rfl
          · rw [if_neg h]) (X 8 0) F 0 now (by omega) (by omega) (fun i hi => by rw [hn i hi, if_neg (by omega)])
  have e : m_X7_comes_L42 F zQ me F (nI (s 4)) (nI (s 5)) (nI o) (nI w) (nI 0) now = m_X7_comes_L42 F zQ me (n' + 1) (nI (s 4)) (nI (s 5)) (nI o) (nI w) (nI (X 8 0)) a' := e
  rw [e, u_X7_comes_L42, hq.1]
  have h7 : a' 7 = nI (s 7) := by rw [hI 7 (by omega), if_neg (by omega)]
  have h6 : a' 6 = nI (s 6) := by rw [hI 6 (by omega), if_neg (by omega)]
  simp (disch := omega) only [pl_0, pl_1, pl_2, pl_3, pl_4, pl_5, pl_6, pl_7, pl_8, pl_9, pl_10, pl_11, pl_12, pl_13, pl_14, pl_15, pl_31, nI_add, pk_mul, pn_le, pn_lt, pn_eq, nI_clamp, pn_ck, pn_bd, pn_b0, pn_b1, pn_or, pn_andn, pm_andn, Nat.not_lt_zero, Nat.zero_le, ↓reduceIte, Nat.le_refl, h7]
  refine ⟨_, rfl, i14 ⟨rfl, rfl, rfl, rfl, rfl, rfl, ?_, ?_⟩ (fun g hg => ?_)⟩
  · exact h6
  · show nI (andn (s 7) w) = nI (andn (s 7) (sM X (s 4) (s 5)))
    rw [hnw]
  · have : ∀ v0 v1 v2 v3 v4 v5 v7 : Int32, upd (upd (upd (upd (upd (upd (upd a' 7 v7) 0 v0) 1 v1) 2 v2) 3 v3) 4 v4) 5 v5 (8 + g) = a' (8 + g) := fun v0 v1 v2 v3 v4 v5 v7 => by
      rw [upd_ne (by omega), upd_ne (by omega), upd_ne (by omega), upd_ne (by omega), upd_ne (by omega), upd_ne (by omega), upd_ne (by omega)]
    rw [this, hI (8 + g) (by omega)]
    unfold sEnter
    rw [hnw, ho]
    simp only [show ¬ 8 + g = 0 by omega, show ¬ 8 + g = 1 by omega, show ¬ 8 + g < 6 by omega, show ¬ 8 + g = 7 by omega, if_false]
