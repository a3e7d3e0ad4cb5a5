/-! the class's machine: what comes next, clearing, leaving, entering -/
theorem md1 {m h : Nat} (h0 : 0 < h) : (m + 1) % h = if h ≤ m % h + 1 then 0 else m % h + 1 := by
  rw [← Nat.mod_add_mod]
  have h1 := Nat.mod_lt m h0
  by_cases h2 : h ≤ m % h + 1
  · rw [if_pos h2, show m % h + 1 = h by omega, Nat.mod_self]
  · rw [if_neg h2, Nat.mod_eq_of_lt (by omega)]
theorem nby_found {c : Nat → Bool} : ∀ {d b k : Nat}, (∀ j, b ≤ j → j < k → c j = false) → c k = true → b ≤ k → k < b + d → nby c d b = k := by
  intro d
  induction d with
  | zero => intro b k _ _ h1 h2; omega
  | succ d ih =>
    intro b k h1 h2 h3 h4
    by_cases h : b = k
    · subst h; simp only [nby, h2, if_true]
    · simp only [nby, h1 b (by omega) (by omega)]
      exact ih (fun j hj hk => h1 j (by omega) hk) h2 (by omega) (by omega)
theorem nby_none {c : Nat → Bool} : ∀ {d b : Nat}, (∀ j, b ≤ j → j < b + d → c j = false) → nby c d b = b + d := by
  intro d
  induction d with
  | zero => intro b _; rfl
  | succ d ih =>
    intro b h1
    simp only [nby, h1 b (by omega) (by omega)]
    rw [show b + (d + 1) = b + 1 + d by omega]
    exact ih (fun j hj hk => h1 j (by omega) (by omega))
theorem pc_over {F : Nat} {X : Nat → Nat → Nat} {zX : Int32 × Int32} {cl be le mo ph me sh lo : Nat → Int32} (hF : 2000 ≤ F) (hX : xG X) (hc : cX X zX cl be le mo ph me sh lo) {p f t y : Nat} (hp : p < X 8 1) (hf : f < X 4 p) (ht : t ≤ 31) (hy : y ≤ 1) : m_X0_isOver F (nI (5 * p + f)) (nI t) (nI y) zX sh lo = some (if X 7 (5 * p + f) ≤ t ∨ (y = 1 ∧ X 6 (5 * p + f) ≤ t) then nI 1 else nI 0) := by
  have h15 := x_pl hX hp hf
  obtain ⟨-, h6, h7⟩ := (hX.2.2.2.2.2.2 p hp).2.2 f hf
  obtain ⟨-, e6, e7⟩ := hc.2.2.2.2.2.2 p hp f hf
  unfold m_X0_isOver
  simp (disch := omega) only [pl_0, pl_1, pl_2, pl_3, pl_4, pl_5, pl_6, pl_7, pl_8, pl_9, pl_10, pl_11, pl_12, pl_13, pl_14, pl_15, pl_31, nI_add, pk_mul, pn_le, pn_lt, pn_eq, nI_clamp, pn_ck, pn_bd, pn_b0, pn_b1, pn_or, pn_andn, pm_andn, Nat.not_lt_zero, Nat.zero_le, ↓reduceIte, e6, e7, h15]
  by_cases c1 : X 7 (5 * p + f) ≤ t
  · simp only [c1, true_or, ↓reduceIte]
  · by_cases c2 : y = 0
    · subst c2; simp only [c1, false_or, ↓reduceIte, Nat.zero_ne_one, false_and]
    · have c3 : y = 1 := by omega
      by_cases c4 : X 6 (5 * p + f) ≤ t
      · simp only [c1, c2, c3, c4, show ¬ t < X 6 (5 * p + f) by omega, false_or, true_and, Nat.one_ne_zero, ↓reduceIte]
      · simp only [c1, c2, c3, c4, show t < X 6 (5 * p + f) by omega, false_or, true_and, Nat.one_ne_zero, ↓reduceIte]
theorem pc_behind {F : Nat} {X : Nat → Nat → Nat} {zX : Int32 × Int32} {cl be le mo ph me sh lo : Nat → Int32} (hF : 2000 ≤ F) (hX : xG X) (hc : cX X zX cl be le mo ph me sh lo) {p f w : Nat} (hp : p < X 8 1) (hf : f < X 4 p) (hw : w < 64) (h0 : w &&& sM X p f = 0) : m_X0_placeBehind F (nI (5 * p + f)) (nI w) zX ph me = some (nI (5 * p + sNf X p f w)) := by
  have h15 := x_pl hX hp hf
  have hP := hX.2.2.1
  obtain ⟨h1, h5, -⟩ := hX.2.2.2.2.2.2 p hp
  have hd : nI (5 * p + f) / nI 5 = nI p := by rw [pk_div (by omega) (by omega) (by omega), show (5 * p + f) / 5 = p by omega]
  have hph := hc.2.2.2.2.2.1 p hp
  unfold m_X0_placeBehind
  simp only [pl_5, hd]
  rw [pc_isP hF hX hc (by omega), pn_bd, if_pos hp, if_neg (by decide), pn_ck (by omega) (by omega), nI_clamp (by omega), hph]
  simp only [pk_mul, nI_add]
  rw [show p * 5 = 5 * p by omega]
  have hmod : ∀ m, m % X 4 p < X 4 p := fun m => Nat.mod_lt m (by omega)
  have hR := lpB (L := fun n k a => m_X0_placeBehind_L37 F zX ph me n (nI (5 * p + f)) (nI w) (nI (5 * p)) (nI (5 * p + X 4 p)) a (nI (5 * p + k))) (N := X 4 p)
    (Inv := fun k a => a = nI (5 * p + (f + k) % X 4 p) ∧ ∀ b, 1 ≤ b → b ≤ k → ((sM X p ((f + b) % X 4 p) &&& w) != 0) = false)
    (Out := fun r => r = some (nI (5 * p + sNf X p f w))) (by
    intro n k a hk hi
    obtain ⟨rfl, hb⟩ := hi
    show (∃ a', m_X0_placeBehind_L37 F zX ph me (n + 1) (nI (5 * p + f)) (nI w) (nI (5 * p)) (nI (5 * p + X 4 p)) _ (nI (5 * p + k)) = _ ∧ _) ∨ (m_X0_placeBehind_L37 F zX ph me (n + 1) (nI (5 * p + f)) (nI w) (nI (5 * p)) (nI (5 * p + X 4 p)) _ (nI (5 * p + k)) = _)
    rw [u_X0_placeBehind_L37]
    have hm := hmod (f + k)
    have hm1 := hmod (f + (k + 1))
    have e1 : (if nI (5 * p + X 4 p) ≤ nI (5 * p + (f + k) % X 4 p) + 1 then m_X0_placeBehind_J62 F zX ph me (m_X0_placeBehind_L37 F zX ph me n) (nI (5 * p + f)) (nI w) (nI (5 * p)) (nI (5 * p + X 4 p)) (nI (5 * p + k)) (nI (5 * p)) else m_X0_placeBehind_J62 F zX ph me (m_X0_placeBehind_L37 F zX ph me n) (nI (5 * p + f)) (nI w) (nI (5 * p)) (nI (5 * p + X 4 p)) (nI (5 * p + k)) (nI (5 * p + (f + k) % X 4 p) + 1)) = m_X0_placeBehind_J62 F zX ph me (m_X0_placeBehind_L37 F zX ph me n) (nI (5 * p + f)) (nI w) (nI (5 * p)) (nI (5 * p + X 4 p)) (nI (5 * p + k)) (nI (5 * p + (f + (k + 1)) % X 4 p)) := by
      have e := md1 (m := f + k) (h := X 4 p) (by omega)
      rw [nI_1]
      by_cases hh : X 4 p ≤ (f + k) % X 4 p + 1
      · rw [if_pos (nI_le (by omega) (by omega)), show f + (k + 1) = f + k + 1 by omega, e, if_pos hh]; rfl
      · rw [if_neg (nI_ge (by omega) (by omega)), show f + (k + 1) = f + k + 1 by omega, e, if_neg hh, Nat.add_assoc]
    rw [if_neg (nI_ge (by omega) (by omega)), e1]
    unfold m_X0_placeBehind_J62
    rw [pc_mem hF hX hc hp hm1, pn_bd, nx_and, nI_1]
    have hlt : sM X p ((f + (k + 1)) % X 4 p) &&& w < 64 := Nat.and_lt_two_pow (n := 6) _ hw
    by_cases hz : sM X p ((f + (k + 1)) % X 4 p) &&& w = 0
    · left
      refine ⟨_, by rw [if_pos (by rw [hz]; rfl)]; rfl, rfl, fun b h1 h2 => ?_⟩
      by_cases hbk : b = k + 1
      · subst hbk; simp [hz]
      · exact hb b h1 (by omega)
    · right
      have hk1 : k + 1 ≠ X 4 p := fun hh => hz (by rw [hh, Nat.add_mod_right, Nat.mod_eq_of_lt hf, Nat.and_comm]; exact h0)
      have hby : sNb X p f w = k + 1 := nby_found (fun j h1 h2 => hb j h1 (by omega)) (by simp [hz]) (by omega) (by omega)
      rw [if_neg (by rw [show (0 : Int32) = nI 0 from rfl]; rw [pn_eq (by omega) (by omega)]; exact hz)]
      unfold sNf; rw [hby, if_pos (by omega)]) (X 4 p) F 0 (nI (5 * p + f)) (by omega) (by omega) ⟨by rw [Nat.add_zero, Nat.mod_eq_of_lt hf], fun b h1 h2 => by omega⟩
  rcases hR with ⟨n', a', e, hI, hb⟩ | hR
  · have e : m_X0_placeBehind_L37 F zX ph me F (nI (5 * p + f)) (nI w) (nI (5 * p)) (nI (5 * p + X 4 p)) (nI (5 * p + f)) (nI (5 * p)) = m_X0_placeBehind_L37 F zX ph me (n' + 1) (nI (5 * p + f)) (nI w) (nI (5 * p)) (nI (5 * p + X 4 p)) a' (nI (5 * p + X 4 p)) := e
    rw [e, u_X0_placeBehind_L37, if_pos (nI_le (Nat.le_refl _) (by omega)), nI_1]
    have hby : sNb X p f w = 1 + (X 4 p - 1) := nby_none (fun j h1 h2 => hb j h1 (by omega))
    have e2 := md1 (m := f) (h := X 4 p) (by omega)
    rw [Nat.mod_eq_of_lt hf] at e2
    unfold sNf
    rw [if_neg (show ¬ sNb X p f w < X 4 p by omega), e2]
    by_cases hh : X 4 p ≤ f + 1
    · rw [if_pos (nI_le (by omega) (by omega)), if_pos hh]; rfl
    · rw [if_neg (nI_ge (by omega) (by omega)), if_neg hh]; rfl
  · exact hR
theorem mx_step (g m v : Nat) : (if (if g < m then m else g) < v then v else (if g < m then m else g)) = (if g < (if m < v then v else m) then (if m < v then v else m) else g) := by
  repeat' split
  all_goals omega
theorem mx0 (g : Nat) : (if g < 0 then 0 else g) = g := if_neg (Nat.not_lt_zero _)
theorem pc_clr {F : Nat} {X : Nat → Nat → Nat} {zX : Int32 × Int32} {cl be le mo ph me sh lo : Nat → Int32} (hF : 2000 ≤ F) (hX : xG X) (hc : cX X zX cl be le mo ph me sh lo) {go co : Nat} (hgo : go < 64) (hco : co < 64) : m_X0_clearing F (nI go) (nI co) zX be = some (nI (nmax (fun a => if go.testBit a = true then nmax (fun b => if co.testBit b = true then X 1 (6 * a + b) else 0) (X 8 0) else 0) (X 8 0))) := by
  have hN := hX.2.1
  have hB : ∀ a b, a < 6 → b < 6 → be (a * 6 + b) = nI (X 1 (6 * a + b)) ∧ X 1 (6 * a + b) ≤ 15 := fun a b ha hb => by
    rw [show a * 6 + b = 6 * a + b by omega]
    exact ⟨hc.2.2.1 _ (by omega), (hX.2.2.2.1 _ (by omega)).2.1⟩
  have hfb : ∀ a k, a < 6 → k ≤ 6 → nmax (fun b => if co.testBit b = true then X 1 (6 * a + b) else 0) k ≤ 15 := fun a k ha hk => nmax_le (fun b hb => by
    show (if _ then _ else _) ≤ 15
    split
    · exact (hB a b ha (by omega)).2
    · omega)
  have inner : ∀ (k5 : (Int32) → (Int32) → (Int32) → (Int32) → Option (Int32)) (g a : Nat), g ≤ 15 → a < X 8 0 → m_X0_clearing_L17 F zX be k5 F (nI go) (nI co) (nI g) (nI a) (nI 0) = k5 (nI go) (nI co) (nI (if g < (if go.testBit a = true then nmax (fun b => if co.testBit b = true then X 1 (6 * a + b) else 0) (X 8 0) else 0) then (if go.testBit a = true then nmax (fun b => if co.testBit b = true then X 1 (6 * a + b) else 0) (X 8 0) else 0) else g)) (nI (a + 1)) := by
    intro k5 g a hg ha
    obtain ⟨n', a', e, hI⟩ := lpA (L := fun n k acc => m_X0_clearing_L17 F zX be k5 n (nI go) (nI co) acc (nI a) (nI k)) (N := X 8 0)
      (Inv := fun k acc => acc = nI (if g < (if go.testBit a = true then nmax (fun b => if co.testBit b = true then X 1 (6 * a + b) else 0) k else 0) then (if go.testBit a = true then nmax (fun b => if co.testBit b = true then X 1 (6 * a + b) else 0) k else 0) else g)) (by
      intro n k acc hk hi
      subst hi
      refine ⟨_, ?_, rfl⟩
      show m_X0_clearing_L17 F zX be k5 (n + 1) (nI go) (nI co) _ (nI a) (nI k) = m_X0_clearing_L17 F zX be k5 n (nI go) (nI co) _ (nI a) (nI (k + 1))
      rw [u_X0_clearing_L17, hc.1]
      have hm := hfb a k (by omega) (by omega)
      obtain ⟨b1, b2⟩ := hB a k (by omega) (by omega)
      cases h1 : go.testBit a
      · simp (disch := omega) only [pl_0, pl_1, pl_2, pl_3, pl_4, pl_5, pl_6, pl_7, pl_8, pl_9, pl_10, pl_11, pl_12, pl_13, pl_14, pl_15, pl_31, nI_add, pk_mul, pn_le, pn_lt, pn_eq, nI_clamp, pn_ck, pn_bd, pn_b0, pn_b1, pn_or, pn_andn, pm_andn, Nat.not_lt_zero, Nat.zero_le, ↓reduceIte, m_X0_clearing_J48, m_X0_clearing_J49, m_X0_clearing_J87, show ¬ X 8 0 ≤ k by omega, h1, Bool.false_eq_true]
      · cases h2 : co.testBit k
        · simp (disch := omega) only [pl_0, pl_1, pl_2, pl_3, pl_4, pl_5, pl_6, pl_7, pl_8, pl_9, pl_10, pl_11, pl_12, pl_13, pl_14, pl_15, pl_31, nI_add, pk_mul, pn_le, pn_lt, pn_eq, nI_clamp, pn_ck, pn_bd, pn_b0, pn_b1, pn_or, pn_andn, pm_andn, Nat.not_lt_zero, Nat.zero_le, ↓reduceIte, m_X0_clearing_J48, m_X0_clearing_J49, m_X0_clearing_J87, show ¬ X 8 0 ≤ k by omega, h1, h2, Bool.true_eq_false, nmax, Bool.false_eq_true]
        · simp only [h1, nmax, h2, if_true]
          rw [← mx_step]
          generalize hq : (if g < nmax (fun b => if co.testBit b = true then X 1 (6 * a + b) else 0) k then nmax (fun b => if co.testBit b = true then X 1 (6 * a + b) else 0) k else g) = q
          have hq2 : q ≤ 15 := by rw [← hq]; split <;> omega
          simp (disch := omega) only [pl_0, pl_1, pl_2, pl_3, pl_4, pl_5, pl_6, pl_7, pl_8, pl_9, pl_10, pl_11, pl_12, pl_13, pl_14, pl_15, pl_31, nI_add, pk_mul, pn_le, pn_lt, pn_eq, nI_clamp, pn_ck, pn_bd, pn_b0, pn_b1, pn_or, pn_andn, pm_andn, Nat.not_lt_zero, Nat.zero_le, ↓reduceIte, m_X0_clearing_J48, m_X0_clearing_J49, m_X0_clearing_J87, show ¬ X 8 0 ≤ k by omega, h1, h2, Bool.true_eq_false, b1, Nat.one_ne_zero]
          by_cases h3 : q < X 1 (6 * a + k)
          · simp only [h3, show ¬ X 1 (6 * a + k) ≤ q by omega, ↓reduceIte]
          · simp only [h3, show X 1 (6 * a + k) ≤ q by omega, ↓reduceIte]) (X 8 0) F 0 (nI g) (by omega) (by omega) (by
            congr 1
            cases go.testBit a
            · exact (mx0 g).symm
            · exact (mx0 g).symm)
    have e : m_X0_clearing_L17 F zX be k5 F (nI go) (nI co) (nI g) (nI a) (nI 0) = m_X0_clearing_L17 F zX be k5 (n' + 1) (nI go) (nI co) a' (nI a) (nI (X 8 0)) := e
    rw [e, hI, u_X0_clearing_L17, hc.1]
    simp (disch := omega) only [pl_0, pl_1, pl_2, pl_3, pl_4, pl_5, pl_6, pl_7, pl_8, pl_9, pl_10, pl_11, pl_12, pl_13, pl_14, pl_15, pl_31, nI_add, pk_mul, pn_le, pn_lt, pn_eq, nI_clamp, pn_ck, pn_bd, pn_b0, pn_b1, pn_or, pn_andn, pm_andn, Nat.not_lt_zero, Nat.zero_le, ↓reduceIte, Nat.le_refl]
  have hfa : ∀ a, a < 6 → (if go.testBit a = true then nmax (fun b => if co.testBit b = true then X 1 (6 * a + b) else 0) (X 8 0) else 0) ≤ 15 := fun a ha => by
    split
    · exact hfb a _ ha hN
    · omega
  unfold m_X0_clearing
  obtain ⟨n', a', e, hI⟩ := lpA (L := fun n k acc => m_X0_clearing_L5 F zX be n (nI go) (nI co) acc (nI k)) (N := X 8 0)
    (Inv := fun k acc => acc = nI (nmax (fun a => if go.testBit a = true then nmax (fun b => if co.testBit b = true then X 1 (6 * a + b) else 0) (X 8 0) else 0) k)) (by
    intro n k acc hk hi
    subst hi
    refine ⟨_, ?_, rfl⟩
    show m_X0_clearing_L5 F zX be (n + 1) (nI go) (nI co) _ (nI k) = m_X0_clearing_L5 F zX be n (nI go) (nI co) _ (nI (k + 1))
    rw [u_X0_clearing_L5, hc.1]
    simp (disch := omega) only [pl_0, pl_1, pl_2, pl_3, pl_4, pl_5, pl_6, pl_7, pl_8, pl_9, pl_10, pl_11, pl_12, pl_13, pl_14, pl_15, pl_31, nI_add, pk_mul, pn_le, pn_lt, pn_eq, nI_clamp, pn_ck, pn_bd, pn_b0, pn_b1, pn_or, pn_andn, pm_andn, Nat.not_lt_zero, Nat.zero_le, ↓reduceIte, show ¬ X 8 0 ≤ k by omega]
    rw [← hc.1]
    rw [inner _ _ k (nmax_le (fun a ha => hfa a (by omega))) hk]
    rfl) (X 8 0) F 0 (nI 0) (by omega) (by omega) rfl
  have e : m_X0_clearing_L5 F zX be F (nI go) (nI co) (nI 0) (nI 0) = m_X0_clearing_L5 F zX be (n' + 1) (nI go) (nI co) a' (nI (X 8 0)) := e
  simp only [pl_0]
  rw [e, hI, u_X0_clearing_L5, hc.1]
  simp (disch := omega) only [pl_0, pl_1, pl_2, pl_3, pl_4, pl_5, pl_6, pl_7, pl_8, pl_9, pl_10, pl_11, pl_12, pl_13, pl_14, pl_15, pl_31, nI_add, pk_mul, pn_le, pn_lt, pn_eq, nI_clamp, pn_ck, pn_bd, pn_b0, pn_b1, pn_or, pn_andn, pm_andn, Nat.not_lt_zero, Nat.zero_le, ↓reduceIte, Nat.le_refl]
