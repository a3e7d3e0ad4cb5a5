/-! the class's machine does what the numbers say -/
abbrev cM (s : Nat → Nat) (bg cs : Nat) : Int32 × Int32 × Int32 × Int32 × Int32 × Int32 × Int32 × Int32 := (nI (5 * s 0 + s 1), nI (s 2), nI (s 3), nI (5 * s 4 + s 5), nI (s 6), nI (s 7), nI bg, nI cs)
def cX (X : Nat → Nat → Nat) (zX : Int32 × Int32) (cl be le mo ph me sh lo : Nat → Int32) : Prop :=
  zX = (nI (X 8 0), nI (X 8 1)) ∧ (∀ a, a < 6 → ∃ m, cl a = nI m ∧ m < 64 ∧ ∀ b, b < 6 → m.testBit b = (X 0 (6 * a + b) == 1)) ∧ (∀ i, i < 36 → be i = nI (X 1 i)) ∧ (∀ g, g < 6 → le g = nI (X 2 g)) ∧ (∀ g, g < 6 → mo g = nI (X 3 g)) ∧ (∀ p, p < X 8 1 → ph p = nI (X 4 p)) ∧
  (∀ p, p < X 8 1 → ∀ f, f < X 4 p → me (5 * p + f) = nI (X 5 (5 * p + f)) ∧ sh (5 * p + f) = nI (X 6 (5 * p + f)) ∧ lo (5 * p + f) = nI (X 7 (5 * p + f)))
theorem x_pl {X : Nat → Nat → Nat} (hX : xG X) {p f : Nat} (hp : p < X 8 1) (hf : f < X 4 p) : 5 * p + f < 15 := by
  obtain ⟨_, _, h3, _, _, _, h7⟩ := hX
  have := (h7 p hp).2.1
  omega
theorem x_64 {X : Nat → Nat → Nat} (hX : xG X) : 2 ^ X 8 0 ≤ 64 := Nat.pow_le_pow_right (n := 2) (by decide) (show X 8 0 ≤ 6 from hX.2.1)
theorem x_m {X : Nat → Nat → Nat} (hX : xG X) {p f : Nat} (hp : p < X 8 1) (hf : f < X 4 p) : sM X p f < 2 ^ X 8 0 := ((hX.2.2.2.2.2.2 p hp).2.2 f hf).1
theorem x_m64 {X : Nat → Nat → Nat} (hX : xG X) {p f : Nat} (hp : p < X 8 1) (hf : f < X 4 p) : sM X p f < 64 := Nat.lt_of_lt_of_le (x_m hX hp hf) (x_64 hX)
theorem lit_lt {X : Nat → Nat → Nat} (hX : xG X) {s : Nat → Nat} (h0 : s 0 < X 8 1) (h1 : s 1 < X 4 (s 0)) : sLit X s < 2 ^ X 8 0 := by
  unfold sLit; split
  · exact x_m hX h0 h1
  · exact and_lt (x_m hX h0 h1)
theorem pc_gi {F : Nat} {zX : Int32 × Int32} {me : Nat → Int32} {i : Nat} (h : i < 15) : m_X0_groupsIn F (nI i) zX me = some (me i) := by
  unfold m_X0_groupsIn
  simp (disch := omega) only [pl_0, pl_1, pl_2, pl_3, pl_4, pl_5, pl_6, pl_7, pl_8, pl_9, pl_10, pl_11, pl_12, pl_13, pl_14, pl_15, pl_31, nI_add, pk_mul, pn_le, pn_lt, pn_eq, nI_clamp, pn_ck, pn_bd, pn_b0, pn_b1, pn_or, pn_andn, pm_andn, Nat.not_lt_zero, Nat.zero_le, ↓reduceIte, show ¬ 15 ≤ i by omega]
theorem pc_mem {F : Nat} {X : Nat → Nat → Nat} {zX : Int32 × Int32} {cl be le mo ph me sh lo : Nat → Int32} (hF : 2000 ≤ F) (hX : xG X) (hc : cX X zX cl be le mo ph me sh lo) {p f : Nat} (hp : p < X 8 1) (hf : f < X 4 p) : m_X0_groupsIn F (nI (5 * p + f)) zX me = some (nI (sM X p f)) := by
  rw [pc_gi (x_pl hX hp hf), (hc.2.2.2.2.2.2 p hp f hf).1]; rfl
theorem pc_lit {F : Nat} {X : Nat → Nat → Nat} {zX : Int32 × Int32} {cl be le mo ph me sh lo : Nat → Int32} (hF : 2000 ≤ F) (hX : xG X) (hc : cX X zX cl be le mo ph me sh lo) {s : Nat → Nat} {bg cs : Nat} (h0 : s 0 < X 8 1 ∧ s 1 < X 4 (s 0)) (h4 : s 4 < X 8 1 ∧ s 5 < X 4 (s 4)) (h3 : s 3 ≤ 15) : m_X2_lit F (cM s bg cs) zX me = some (nI (sLit X s)) := by
  unfold m_X2_lit sLit
  rw [pc_mem hF hX hc h0.1 h0.2, pn_bd]
  by_cases h : s 3 = 0
  · simp (disch := omega) only [pl_0, pl_1, pl_2, pl_3, pl_4, pl_5, pl_6, pl_7, pl_8, pl_9, pl_10, pl_11, pl_12, pl_13, pl_14, pl_15, pl_31, nI_add, pk_mul, pn_le, pn_lt, pn_eq, nI_clamp, pn_ck, pn_bd, pn_b0, pn_b1, pn_or, pn_andn, pm_andn, Nat.not_lt_zero, Nat.zero_le, ↓reduceIte, h, Nat.le_refl]
  · simp (disch := omega) only [pl_0, pl_1, pl_2, pl_3, pl_4, pl_5, pl_6, pl_7, pl_8, pl_9, pl_10, pl_11, pl_12, pl_13, pl_14, pl_15, pl_31, nI_add, pk_mul, pn_le, pn_lt, pn_eq, nI_clamp, pn_ck, pn_bd, pn_b0, pn_b1, pn_or, pn_andn, pm_andn, Nat.not_lt_zero, Nat.zero_le, ↓reduceIte, show ¬ s 3 ≤ 0 by omega, h]
    rw [pc_mem hF hX hc h4.1 h4.2, pn_bd, nx_and]
theorem pc_isG {F : Nat} {X : Nat → Nat → Nat} {zX : Int32 × Int32} {cl be le mo ph me sh lo : Nat → Int32} (hF : 2000 ≤ F) (hX : xG X) (hc : cX X zX cl be le mo ph me sh lo) {g : Nat} (hg : g < 2 ^ 31) : m_X0_isGroup F (nI g) zX = some (if g < X 8 0 then nI 1 else nI 0) := by
  have hN := hX.2.1
  unfold m_X0_isGroup
  rw [hc.1]
  simp (disch := omega) only [pl_0, pl_1, pl_2, pl_3, pl_4, pl_5, pl_6, pl_7, pl_8, pl_9, pl_10, pl_11, pl_12, pl_13, pl_14, pl_15, pl_31, nI_add, pk_mul, pn_le, pn_lt, pn_eq, nI_clamp, pn_ck, pn_bd, pn_b0, pn_b1, pn_or, pn_andn, pm_andn, Nat.not_lt_zero, Nat.zero_le, ↓reduceIte]
  by_cases h : g < X 8 0
  · simp only [show ¬ X 8 0 ≤ g by omega, h, ↓reduceIte]
  · simp only [show X 8 0 ≤ g by omega, h, ↓reduceIte]
theorem pc_isP {F : Nat} {X : Nat → Nat → Nat} {zX : Int32 × Int32} {cl be le mo ph me sh lo : Nat → Int32} (hF : 2000 ≤ F) (hX : xG X) (hc : cX X zX cl be le mo ph me sh lo) {g : Nat} (hg : g < 2 ^ 31) : m_X0_isPlan F (nI g) zX = some (if g < X 8 1 then nI 1 else nI 0) := by
  have hN := hX.2.2.1
  unfold m_X0_isPlan
  rw [hc.1]
  simp (disch := omega) only [pl_0, pl_1, pl_2, pl_3, pl_4, pl_5, pl_6, pl_7, pl_8, pl_9, pl_10, pl_11, pl_12, pl_13, pl_14, pl_15, pl_31, nI_add, pk_mul, pn_le, pn_lt, pn_eq, nI_clamp, pn_ck, pn_bd, pn_b0, pn_b1, pn_or, pn_andn, pm_andn, Nat.not_lt_zero, Nat.zero_le, ↓reduceIte]
  by_cases h : g < X 8 1
  · simp only [show ¬ X 8 1 ≤ g by omega, h, ↓reduceIte]
  · simp only [show X 8 1 ≤ g by omega, h, ↓reduceIte]
theorem or_andn (w l g : Nat) : w ||| andn (2 ^ g) l = if l.testBit g then w else w ||| 2 ^ g := by
  apply Nat.eq_of_testBit_eq
  intro i
  rw [Nat.testBit_or, andn_bit, Nat.testBit_two_pow]
  by_cases h : g = i
  · subst h
    cases h2 : l.testBit g
    · simp [Nat.testBit_or, Nat.testBit_two_pow]
    · simp
  · cases h2 : l.testBit g
    · simp [Nat.testBit_or, Nat.testBit_two_pow, h]
    · simp [h]
theorem pn_neg1 : ∀ n, n < 7 → nI 0 - nI 1 - nI n < nI 0 := by decide +kernel
theorem pc_hear {F : Nat} {X : Nat → Nat → Nat} {zX : Int32 × Int32} {cl be le mo ph me sh lo : Nat → Int32} (hF : 2000 ≤ F) (hX : xG X) (hc : cX X zX cl be le mo ph me sh lo) {s : Nat → Nat} {bg cs e : Nat} (hs : sV X s) (he : e ≤ X 8 0 + X 8 1) : m_X2_hear F (nI e) (cM s bg cs) zX me = some (cM (sHear X e s) bg cs) := by
  have hN := hX.2.1
  have hP := hX.2.2.1
  unfold m_X2_hear sHear
  by_cases h0 : e = 0
  · subst h0
    have e1 : m_X0_isGroup F (nI 0 - 1) zX = some 0 := by
      unfold m_X0_isGroup; exact if_pos (by decide)
    have e2 : m_X0_isPlan F (nI 0 - 1 - zX.1) zX = some 0 := by
      unfold m_X0_isPlan; rw [hc.1]; exact if_pos (pn_neg1 _ (by omega))
    rw [e1, pn_bd, if_pos rfl, e2, pn_bd, if_pos rfl]; rfl
  · obtain ⟨g, rfl⟩ : ∃ g, e = g + 1 := ⟨e - 1, by omega⟩
    have e0 : nI (g + 1) - 1 = nI g := nI_pred g
    rw [e0, pc_isG hF hX hc (by omega), pn_bd]
    by_cases h : g < X 8 0
    · rw [if_pos h, if_neg (by decide), pc_lit hF hX hc hs.1 hs.2.2.2.1 hs.2.2.1, pn_bd]
      rw [show (1 : Int32) <<< (nI g &&& 31) = nI (2 ^ g) from pn_sl0 g (by omega)]
      show some (_, _, _, _, _, nI (s 7) ||| (nI (2 ^ g) &&& (nI (sLit X s) ^^^ (-1))), _, _) = _
      rw [pn_andn, pn_or, or_andn]
      simp only [show ¬ g + 1 = 0 by omega, show g + 1 ≤ X 8 0 by omega, ↓reduceIte, Nat.add_sub_cancel]
      cases h2 : (sLit X s).testBit g <;> rfl
    · rw [if_neg h, if_pos (show nI 0 = 0 from rfl), hc.1]
      show gk_bd (m_X0_isPlan F (nI g - nI (X 8 0)) _) _ = _
      rw [pk_sub (by omega), ← hc.1, pc_isP hF hX hc (by omega), pn_bd, if_pos (show g - X 8 0 < X 8 1 by omega), if_neg (show ¬ nI 1 = 0 by decide)]
      simp only [show ¬ g + 1 = 0 by omega, show ¬ g + 1 ≤ X 8 0 by omega, ↓reduceIte, Nat.add_sub_cancel]
      rfl
theorem pn_up {v lim : Nat} (hv : v ≤ 31) (hl : lim ≤ 31) : (if nI lim < nI v + 1 then nI lim else nI v + 1) = nI (if v < lim then v + 1 else lim) := by
  rw [nI_1]
  by_cases h : v < lim
  · rw [if_neg (nI_nlt (by omega) (by omega)), if_pos h]
  · rw [if_pos (nI_lt (by omega) (by omega)), if_neg h]
theorem pc_grow {F : Nat} {X : Nat → Nat → Nat} {zX : Int32 × Int32} {cl be le mo ph me sh lo : Nat → Int32} (hF : 2000 ≤ F) (hX : xG X) (hc : cX X zX cl be le mo ph me sh lo) {s : Nat → Nat} {bg cs : Nat} {ag : Nat → Int32} (h0 : s 0 < X 8 1 ∧ s 1 < X 4 (s 0)) (h4 : s 4 < X 8 1 ∧ s 5 < X 4 (s 4)) (h3 : s 3 ≤ 15) (hv : ∀ g, g < 6 → s (8 + g) ≤ 31) (ha : ∀ g, g < 6 → ag g = nI (s (8 + g))) : ∃ ag', m_X2_grow F (cM s bg cs) zX me ag = some ag' ∧ ∀ g, g < 6 → ag' g = nI (sGrow X s (8 + g)) := by
  have hN := hX.2.1
  unfold m_X2_grow
  rw [pc_lit hF hX hc h0 h4 h3, pn_bd]
  obtain ⟨n', a', h1, h2⟩ := lpA (L := fun n k ag => m_X2_grow_L7 F (cM s bg cs) zX me n (nI (sLit X s)) (nI k) ag) (N := X 8 0) (Inv := fun k a => ∀ g, g < 6 → a g = nI (if g < k then sUp (sLit X s) g (s (8 + g)) else s (8 + g))) (by
    intro n k a hk hi
    refine ⟨upd a k (nI (sUp (sLit X s) k (s (8 + k)))), ?_, ?_⟩
    · show m_X2_grow_L7 F (cM s bg cs) zX me (n + 1) (nI (sLit X s)) (nI k) a = _
      rw [u_X2_grow_L7, hc.1]
      have hak : a k = nI (s (8 + k)) := by rw [hi k (by omega), if_neg (by omega)]
      have hvk := hv k (by omega)
      simp (disch := omega) only [m_X2_grow_J33, pl_0, pl_1, pl_15, pl_31, pn_le, pn_b0, pn_ck, nI_clamp, show ¬ X 8 0 ≤ k by omega, ↓reduceIte, hak, nI_add]
      have e1 := pn_up (lim := 15) hvk (by omega)
      have e2 := pn_up (lim := 31) hvk (by omega)
      rw [nI_1] at e1 e2
      rw [e1, e2]
      unfold sUp
      cases h : (sLit X s).testBit k <;> rfl
    · intro g hg
      by_cases h : g = k
      · subst h; rw [upd_same, if_pos (by omega)]
      · rw [upd_ne h, hi g hg]
        by_cases h2 : g < k
        · rw [if_pos h2, if_pos (by omega)]
        · rw [if_neg h2, if_neg (by omega)]) (X 8 0) F 0 ag (by omega) (by omega) (fun g hg => by rw [ha g hg, if_neg (by omega)])
  refine ⟨a', ?_, ?_⟩
  · have h1 : m_X2_grow_L7 F (cM s bg cs) zX me F (nI (sLit X s)) (nI 0) ag = m_X2_grow_L7 F (cM s bg cs) zX me (n' + 1) (nI (sLit X s)) (nI (X 8 0)) a' := h1
    rw [show (0 : Int32) = nI 0 from rfl, h1, u_X2_grow_L7, hc.1]
    simp (disch := omega) only [pl_0, pl_1, pl_2, pl_3, pl_4, pl_5, pl_6, pl_7, pl_8, pl_9, pl_10, pl_11, pl_12, pl_13, pl_14, pl_15, pl_31, nI_add, pk_mul, pn_le, pn_lt, pn_eq, nI_clamp, pn_ck, pn_bd, pn_b0, pn_b1, pn_or, pn_andn, pm_andn, Nat.not_lt_zero, Nat.zero_le, ↓reduceIte, Nat.le_refl]
  · intro g hg
    rw [h2 g hg]; unfold sGrow
    by_cases h : g < X 8 0
    · rw [if_pos h, if_pos ⟨by omega, by omega⟩, show 8 + g - 8 = g by omega]
    · rw [if_neg h, if_neg (by omega)]
