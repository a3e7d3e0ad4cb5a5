/-! the reference's machine: faults, a second -/
theorem pn_b2 {w i k : Nat} (hi : i < 32) (hk : k < 32) : (((nI w >>> (nI i &&& nI 31)) &&& (nI w >>> (nI k &&& nI 31))) &&& nI 1 = nI 1) = ((w.testBit i && w.testBit k) = true) := by
  have e : ∀ x y : Int32, (x &&& y) &&& 1 = (x &&& 1) &&& (y &&& 1) := fun x y => by
    apply b_ext; intro j hj
    rw [b_and, b_and, b_and, b_and, b_and]
    cases bt x j <;> cases bt y j <;> cases bt 1 j <;> rfl
  show (((nI w >>> (nI i &&& 31)) &&& (nI w >>> (nI k &&& 31))) &&& 1 = 1) = _
  rw [e, pn_b w hi, pn_b w hk]
  cases w.testBit i <;> cases w.testBit k <;> decide
theorem pq_fault {F : Nat} {X : Nat → Nat → Nat} {zQ : Int32 × Int32 × Int32 × Int32 × Int32 × Int32 × Int32 × Int32 × Int32 × Int32 × Int32} {kl be le mo ph me sh lo : Nat → Int32} (hF : 2000 ≤ F) (hX : xG X) (hq : qX X zQ kl be le mo ph me sh lo) {b w : Nat} {s t : Nat → Nat} {now kept : Nat → Int32} (hb64 : b < 64) (hw64 : w < 64) (h7 : s 7 < 64) (hv : ∀ g, g < 6 → s (8 + g) ≤ 31) (ht : ∀ g, g < 6 → t (8 + g) ≤ 31) (hn : qN s now) (hk : ∀ g, g < X 8 0 → kept (8 + g) = nI (t (8 + g))) : m_X7_fault F (nI b) (nI w) zQ kl be le mo now kept = some (nI (if sF1 X w then 1 else if sF2 X b w s then 2 else if sF3 X b w t then 3 else if sF4 X w s then 4 else 0)) := by
  have hN := hX.2.1
  have hK : ∀ a c, a < 6 → c < 6 → kl (6 * a + c) = nI (X 0 (6 * a + c)) ∧ X 0 (6 * a + c) ≤ 1 ∧ be (6 * a + c) = nI (X 1 (6 * a + c)) ∧ X 1 (6 * a + c) ≤ 15 := fun a c ha hc =>
    ⟨hq.2.2.1 _ (by omega), (hX.2.2.2.1 _ (by omega)).1, hq.2.2.2.1 _ (by omega), (hX.2.2.2.1 _ (by omega)).2.1⟩
  have hxb : ∀ a c, a < 6 → c < 6 → (X 0 (6 * a + c) == 1) = !decide (X 0 (6 * a + c) = 0) := fun a c ha hc => by
    have := (hK a c ha hc).2.1
    rcases (show X 0 (6 * a + c) = 0 ∨ X 0 (6 * a + c) = 1 by omega) with h | h <;> rw [h] <;> rfl
  have hif : ∀ {α : Type} (c : Bool) (x y : α), (if c = true then x else y) = (match c with | true => x | false => y) := fun c x y => by cases c <;> rfl
  -- faults of the first kind
  have i13 : ∀ (k2 : (Int32) → (Int32) → (Int32) → Option (Int32)) (i : Nat), i < X 8 0 → m_X7_fault_L13 F zQ kl be le mo now kept k2 F (nI b) (nI w) (nI i) (nI 0) = if nex (fun h => X 0 (6 * i + h) == 1 && w.testBit i && w.testBit h) (X 8 0) then some (nI 1) else k2 (nI b) (nI w) (nI (i + 1)) := by
    intro k2 i hi
    obtain ⟨n', e⟩ := lpS (L := fun n k => m_X7_fault_L13 F zQ kl be le mo now kept k2 n (nI b) (nI w) (nI i) (nI k)) (N := X 8 0) (c := fun h => X 0 (6 * i + h) == 1 && w.testBit i && w.testBit h) (r := some (nI 1)) (by
      intro n k hk
      show m_X7_fault_L13 F zQ kl be le mo now kept k2 (n + 1) (nI b) (nI w) (nI i) (nI k) = _
      rw [u_X7_fault_L13, hq.1]
      obtain ⟨e1, e2, -, -⟩ := hK i k (by omega) (by omega)
      rw [hxb i k (by omega) (by omega)]
      by_cases h0 : X 0 (6 * i + k) = 0
      · simp (disch := omega) only [pl_0, pl_1, pl_2, pl_3, pl_4, pl_5, pl_6, pl_7, pl_8, pl_9, pl_10, pl_11, pl_12, pl_13, pl_14, pl_15, pl_31, nI_add, pk_mul, pn_le, pn_lt, pn_eq, nI_clamp, pn_ck, pn_bd, pn_b0, pn_b1, pn_or, pn_andn, pm_andn, Nat.not_lt_zero, Nat.zero_le, ↓reduceIte, m_X7_fault_J53, show ¬ X 8 0 ≤ k by omega, e1, h0, decide_true, Bool.not_true, Bool.false_and, Bool.false_eq_true]
      · simp (disch := omega) only [pl_0, pl_1, pl_2, pl_3, pl_4, pl_5, pl_6, pl_7, pl_8, pl_9, pl_10, pl_11, pl_12, pl_13, pl_14, pl_15, pl_31, nI_add, pk_mul, pn_le, pn_lt, pn_eq, nI_clamp, pn_ck, pn_bd, pn_b0, pn_b1, pn_or, pn_andn, pm_andn, Nat.not_lt_zero, Nat.zero_le, ↓reduceIte, m_X7_fault_J53, show ¬ X 8 0 ≤ k by omega, e1, h0, pn_b2, decide_false, Bool.not_false, Bool.true_and]) (n := F) (by omega)
    refine Eq.trans e ?_
    show (if _ then _ else m_X7_fault_L13 F zQ kl be le mo now kept k2 (n' + 1) (nI b) (nI w) (nI i) (nI (X 8 0))) = _
    rw [u_X7_fault_L13, hq.1]
    simp (disch := omega) only [pl_0, pl_1, pl_2, pl_3, pl_4, pl_5, pl_6, pl_7, pl_8, pl_9, pl_10, pl_11, pl_12, pl_13, pl_14, pl_15, pl_31, nI_add, pk_mul, pn_le, pn_lt, pn_eq, nI_clamp, pn_ck, pn_bd, pn_b0, pn_b1, pn_or, pn_andn, pm_andn, Nat.not_lt_zero, Nat.zero_le, ↓reduceIte, Nat.le_refl]
  have i2 : m_X7_fault_L2 F zQ kl be le mo now kept F (nI b) (nI w) (nI 0) = if sF1 X w then some (nI 1) else m_X7_fault_L67 F zQ kl be le mo now kept F (nI b) (nI w) (nI 0) := by
    obtain ⟨n', e⟩ := lpS (L := fun n k => m_X7_fault_L2 F zQ kl be le mo now kept n (nI b) (nI w) (nI k)) (N := X 8 0) (c := fun g => nex (fun h => X 0 (6 * g + h) == 1 && w.testBit g && w.testBit h) (X 8 0)) (r := some (nI 1)) (by
      intro n k hk
      show m_X7_fault_L2 F zQ kl be le mo now kept (n + 1) (nI b) (nI w) (nI k) = _
      rw [u_X7_fault_L2, hq.1, if_neg (nI_ge hk (by omega))]
      exact i13 _ k hk) (n := F) (by omega)
    refine Eq.trans e ?_
    show (if _ then _ else m_X7_fault_L2 F zQ kl be le mo now kept (n' + 1) (nI b) (nI w) (nI (X 8 0))) = _
    rw [u_X7_fault_L2, hq.1, if_pos (nI_le (Nat.le_refl _) (by omega))]
    rfl
  -- the second
  have i98 : ∀ (k67 : (Int32) → (Int32) → (Int32) → Option (Int32)) (g : Nat), g < X 8 0 → m_X7_fault_L98 F zQ kl be le mo now kept k67 F (nI b) (nI w) (nI g) (nI 0) = if nex (fun h => X 0 (6 * h + g) == 1 && !w.testBit h && decide (s (8 + h) < X 1 (6 * h + g))) (X 8 0) then some (nI 2) else k67 (nI b) (nI w) (nI (g + 1)) := by
    intro k67 g hg
    obtain ⟨n', e⟩ := lpS (L := fun n k => m_X7_fault_L98 F zQ kl be le mo now kept k67 n (nI b) (nI w) (nI g) (nI k)) (N := X 8 0) (c := fun h => X 0 (6 * h + g) == 1 && !w.testBit h && decide (s (8 + h) < X 1 (6 * h + g))) (r := some (nI 2)) (by
      intro n k hk
      show m_X7_fault_L98 F zQ kl be le mo now kept k67 (n + 1) (nI b) (nI w) (nI g) (nI k) = _
      rw [u_X7_fault_L98, hq.1]
      obtain ⟨e1, e2, e3, e4⟩ := hK k g (by omega) (by omega)
      have hvk := hv k (by omega)
      have hnk := hn (8 + k) (by omega)
      rw [hxb k g (by omega) (by omega)]
      by_cases h0 : X 0 (6 * k + g) = 0
      · simp (disch := omega) only [pl_0, pl_1, pl_2, pl_3, pl_4, pl_5, pl_6, pl_7, pl_8, pl_9, pl_10, pl_11, pl_12, pl_13, pl_14, pl_15, pl_31, nI_add, pk_mul, pn_le, pn_lt, pn_eq, nI_clamp, pn_ck, pn_bd, pn_b0, pn_b1, pn_or, pn_andn, pm_andn, Nat.not_lt_zero, Nat.zero_le, ↓reduceIte, m_X7_fault_J158, show ¬ X 8 0 ≤ k by omega, e1, h0, decide_true, Bool.not_true, Bool.false_and, Bool.false_eq_true]
      · cases h1 : w.testBit k
        · by_cases h2 : s (8 + k) < X 1 (6 * k + g)
          · simp (disch := omega) only [pl_0, pl_1, pl_2, pl_3, pl_4, pl_5, pl_6, pl_7, pl_8, pl_9, pl_10, pl_11, pl_12, pl_13, pl_14, pl_15, pl_31, nI_add, pk_mul, pn_le, pn_lt, pn_eq, nI_clamp, pn_ck, pn_bd, pn_b0, pn_b1, pn_or, pn_andn, pm_andn, Nat.not_lt_zero, Nat.zero_le, ↓reduceIte, m_X7_fault_J158, show ¬ X 8 0 ≤ k by omega, e1, h0, h1, hnk, e3, show ¬ X 1 (6 * k + g) ≤ s (8 + k) by omega, h2, decide_true, decide_false, Bool.not_false, Bool.and_self]
          · simp (disch := omega) only [pl_0, pl_1, pl_2, pl_3, pl_4, pl_5, pl_6, pl_7, pl_8, pl_9, pl_10, pl_11, pl_12, pl_13, pl_14, pl_15, pl_31, nI_add, pk_mul, pn_le, pn_lt, pn_eq, nI_clamp, pn_ck, pn_bd, pn_b0, pn_b1, pn_or, pn_andn, pm_andn, Nat.not_lt_zero, Nat.zero_le, ↓reduceIte, m_X7_fault_J158, show ¬ X 8 0 ≤ k by omega, e1, h0, h1, hnk, e3, show X 1 (6 * k + g) ≤ s (8 + k) by omega, h2, decide_true, decide_false, Bool.not_false, Bool.and_false, Bool.false_eq_true]
        · simp (disch := omega) only [pl_0, pl_1, pl_2, pl_3, pl_4, pl_5, pl_6, pl_7, pl_8, pl_9, pl_10, pl_11, pl_12, pl_13, pl_14, pl_15, pl_31, nI_add, pk_mul, pn_le, pn_lt, pn_eq, nI_clamp, pn_ck, pn_bd, pn_b0, pn_b1, pn_or, pn_andn, pm_andn, Nat.not_lt_zero, Nat.zero_le, ↓reduceIte, m_X7_fault_J158, show ¬ X 8 0 ≤ k by omega, e1, h0, h1, Bool.true_eq_false, Bool.not_true, Bool.and_false, Bool.false_and, Bool.false_eq_true]) (n := F) (by omega)
    refine Eq.trans e ?_
    show (if _ then _ else m_X7_fault_L98 F zQ kl be le mo now kept k67 (n' + 1) (nI b) (nI w) (nI g) (nI (X 8 0))) = _
    rw [u_X7_fault_L98, hq.1]
    simp (disch := omega) only [pl_0, pl_1, pl_2, pl_3, pl_4, pl_5, pl_6, pl_7, pl_8, pl_9, pl_10, pl_11, pl_12, pl_13, pl_14, pl_15, pl_31, nI_add, pk_mul, pn_le, pn_lt, pn_eq, nI_clamp, pn_ck, pn_bd, pn_b0, pn_b1, pn_or, pn_andn, pm_andn, Nat.not_lt_zero, Nat.zero_le, ↓reduceIte, Nat.le_refl, m_X7_fault_J164]
  have i67 : m_X7_fault_L67 F zQ kl be le mo now kept F (nI b) (nI w) (nI 0) = if sF2 X b w s then some (nI 2) else m_X7_fault_L172 F zQ kl be le mo now kept F (nI b) (nI w) (nI 0) := by
    obtain ⟨n', e⟩ := lpS (L := fun n k => m_X7_fault_L67 F zQ kl be le mo now kept n (nI b) (nI w) (nI k)) (N := X 8 0) (c := fun g => w.testBit g && !b.testBit g && nex (fun h => X 0 (6 * h + g) == 1 && !w.testBit h && decide (s (8 + h) < X 1 (6 * h + g))) (X 8 0)) (r := some (nI 2)) (by
      intro n k hk
      show m_X7_fault_L67 F zQ kl be le mo now kept (n + 1) (nI b) (nI w) (nI k) = _
      rw [u_X7_fault_L67, hq.1]
      cases h1 : w.testBit k
      · simp (disch := omega) only [pl_0, pl_1, pl_2, pl_3, pl_4, pl_5, pl_6, pl_7, pl_8, pl_9, pl_10, pl_11, pl_12, pl_13, pl_14, pl_15, pl_31, nI_add, pk_mul, pn_le, pn_lt, pn_eq, nI_clamp, pn_ck, pn_bd, pn_b0, pn_b1, pn_or, pn_andn, pm_andn, Nat.not_lt_zero, Nat.zero_le, ↓reduceIte, m_X7_fault_J164, show ¬ X 8 0 ≤ k by omega, h1, Bool.false_and, Bool.false_eq_true]
      · cases h2 : b.testBit k
        · simp (disch := omega) only [pl_0, pl_1, pl_2, pl_3, pl_4, pl_5, pl_6, pl_7, pl_8, pl_9, pl_10, pl_11, pl_12, pl_13, pl_14, pl_15, pl_31, nI_add, pk_mul, pn_le, pn_lt, pn_eq, nI_clamp, pn_ck, pn_bd, pn_b0, pn_b1, pn_or, pn_andn, pm_andn, Nat.not_lt_zero, Nat.zero_le, ↓reduceIte, m_X7_fault_J164, show ¬ X 8 0 ≤ k by omega, h1, h2, Bool.true_eq_false, Bool.false_eq_true, Bool.not_false, Bool.and_self, Bool.true_and]
          exact i98 _ k hk
        · simp (disch := omega) only [pl_0, pl_1, pl_2, pl_3, pl_4, pl_5, pl_6, pl_7, pl_8, pl_9, pl_10, pl_11, pl_12, pl_13, pl_14, pl_15, pl_31, nI_add, pk_mul, pn_le, pn_lt, pn_eq, nI_clamp, pn_ck, pn_bd, pn_b0, pn_b1, pn_or, pn_andn, pm_andn, Nat.not_lt_zero, Nat.zero_le, ↓reduceIte, m_X7_fault_J164, show ¬ X 8 0 ≤ k by omega, h1, h2, Bool.true_eq_false, Bool.not_true, Bool.and_false, Bool.false_and, Bool.false_eq_true]) (n := F) (by omega)
    refine Eq.trans e ?_
    show (if _ then _ else m_X7_fault_L67 F zQ kl be le mo now kept (n' + 1) (nI b) (nI w) (nI (X 8 0))) = _
    rw [u_X7_fault_L67, hq.1, if_pos (nI_le (Nat.le_refl _) (by omega))]
    rfl
  -- the third
  have i172 : m_X7_fault_L172 F zQ kl be le mo now kept F (nI b) (nI w) (nI 0) = if sF3 X b w t then some (nI 3) else m_X7_fault_L225 F zQ kl be le mo now kept F (nI w) (nI 0) := by
    obtain ⟨n', e⟩ := lpS (L := fun n k => m_X7_fault_L172 F zQ kl be le mo now kept n (nI b) (nI w) (nI k)) (N := X 8 0) (c := fun g => b.testBit g && !w.testBit g && decide (t (8 + g) < X 2 g)) (r := some (nI 3)) (by
      intro n k hk2
      show m_X7_fault_L172 F zQ kl be le mo now kept (n + 1) (nI b) (nI w) (nI k) = _
      rw [u_X7_fault_L172, hq.1]
      have e1 := hq.2.2.2.2.1 k (by omega)
      have e2 := (hX.2.2.2.2.2.1 k (by omega)).1
      have e3 := hk k hk2
      have e4 := ht k (by omega)
      cases h1 : b.testBit k
      · simp (disch := omega) only [pl_0, pl_1, pl_2, pl_3, pl_4, pl_5, pl_6, pl_7, pl_8, pl_9, pl_10, pl_11, pl_12, pl_13, pl_14, pl_15, pl_31, nI_add, pk_mul, pn_le, pn_lt, pn_eq, nI_clamp, pn_ck, pn_bd, pn_b0, pn_b1, pn_or, pn_andn, pm_andn, Nat.not_lt_zero, Nat.zero_le, ↓reduceIte, m_X7_fault_J217, show ¬ X 8 0 ≤ k by omega, h1, Bool.false_and, Bool.false_eq_true]
      · cases h2 : w.testBit k
        · by_cases h3 : t (8 + k) < X 2 k
          · simp (disch := omega) only [pl_0, pl_1, pl_2, pl_3, pl_4, pl_5, pl_6, pl_7, pl_8, pl_9, pl_10, pl_11, pl_12, pl_13, pl_14, pl_15, pl_31, nI_add, pk_mul, pn_le, pn_lt, pn_eq, nI_clamp, pn_ck, pn_bd, pn_b0, pn_b1, pn_or, pn_andn, pm_andn, Nat.not_lt_zero, Nat.zero_le, ↓reduceIte, m_X7_fault_J217, show ¬ X 8 0 ≤ k by omega, h1, h2, e1, e3, show ¬ X 2 k ≤ t (8 + k) by omega, h3, decide_true, Bool.not_false, Bool.and_self]
          · simp (disch := omega) only [pl_0, pl_1, pl_2, pl_3, pl_4, pl_5, pl_6, pl_7, pl_8, pl_9, pl_10, pl_11, pl_12, pl_13, pl_14, pl_15, pl_31, nI_add, pk_mul, pn_le, pn_lt, pn_eq, nI_clamp, pn_ck, pn_bd, pn_b0, pn_b1, pn_or, pn_andn, pm_andn, Nat.not_lt_zero, Nat.zero_le, ↓reduceIte, m_X7_fault_J217, show ¬ X 8 0 ≤ k by omega, h1, h2, e1, e3, show X 2 k ≤ t (8 + k) by omega, h3, decide_false, Bool.not_false, Bool.and_false, Bool.false_eq_true]
        · simp (disch := omega) only [pl_0, pl_1, pl_2, pl_3, pl_4, pl_5, pl_6, pl_7, pl_8, pl_9, pl_10, pl_11, pl_12, pl_13, pl_14, pl_15, pl_31, nI_add, pk_mul, pn_le, pn_lt, pn_eq, nI_clamp, pn_ck, pn_bd, pn_b0, pn_b1, pn_or, pn_andn, pm_andn, Nat.not_lt_zero, Nat.zero_le, ↓reduceIte, m_X7_fault_J217, show ¬ X 8 0 ≤ k by omega, h1, h2, Bool.true_eq_false, Bool.not_true, Bool.and_false, Bool.false_and, Bool.false_eq_true]) (n := F) (by omega)
    refine Eq.trans e ?_
    show (if _ then _ else m_X7_fault_L172 F zQ kl be le mo now kept (n' + 1) (nI b) (nI w) (nI (X 8 0))) = _
    rw [u_X7_fault_L172, hq.1, if_pos (nI_le (Nat.le_refl _) (by omega))]
    rfl
  -- the fourth
  have i265 : ∀ (k225 : (Int32) → (Int32) → Option (Int32)) (g : Nat), g < X 8 0 → m_X7_fault_L265 F zQ kl be le mo now kept k225 F (nI w) (nI g) (nI 0) = if nex (fun h => X 0 (6 * g + h) == 1 && (s 7).testBit h) (X 8 0) then some (nI 4) else k225 (nI w) (nI (g + 1)) := by
    intro k225 g hg
    obtain ⟨n', e⟩ := lpS (L := fun n k => m_X7_fault_L265 F zQ kl be le mo now kept k225 n (nI w) (nI g) (nI k)) (N := X 8 0) (c := fun h => X 0 (6 * g + h) == 1 && (s 7).testBit h) (r := some (nI 4)) (by
      intro n k hk
      show m_X7_fault_L265 F zQ kl be le mo now kept k225 (n + 1) (nI w) (nI g) (nI k) = _
      rw [u_X7_fault_L265, hq.1]
      obtain ⟨e1, e2, -, -⟩ := hK g k (by omega) (by omega)
      have hn7 := hn 7 (by omega)
      rw [hxb g k (by omega) (by omega)]
      by_cases h0 : X 0 (6 * g + k) = 0
      · simp (disch := omega) only [pl_0, pl_1, pl_2, pl_3, pl_4, pl_5, pl_6, pl_7, pl_8, pl_9, pl_10, pl_11, pl_12, pl_13, pl_14, pl_15, pl_31, nI_add, pk_mul, pn_le, pn_lt, pn_eq, nI_clamp, pn_ck, pn_bd, pn_b0, pn_b1, pn_or, pn_andn, pm_andn, Nat.not_lt_zero, Nat.zero_le, ↓reduceIte, m_X7_fault_J307, show ¬ X 8 0 ≤ k by omega, e1, h0, decide_true, Bool.not_true, Bool.false_and, Bool.false_eq_true]
      · simp (disch := omega) only [pl_0, pl_1, pl_2, pl_3, pl_4, pl_5, pl_6, pl_7, pl_8, pl_9, pl_10, pl_11, pl_12, pl_13, pl_14, pl_15, pl_31, nI_add, pk_mul, pn_le, pn_lt, pn_eq, nI_clamp, pn_ck, pn_bd, pn_b0, pn_b1, pn_or, pn_andn, pm_andn, Nat.not_lt_zero, Nat.zero_le, ↓reduceIte, m_X7_fault_J307, show ¬ X 8 0 ≤ k by omega, e1, h0, hn7, decide_false, Bool.not_false, Bool.true_and]) (n := F) (by omega)
    refine Eq.trans e ?_
    show (if _ then _ else m_X7_fault_L265 F zQ kl be le mo now kept k225 (n' + 1) (nI w) (nI g) (nI (X 8 0))) = _
    rw [u_X7_fault_L265, hq.1]
    simp (disch := omega) only [pl_0, pl_1, pl_2, pl_3, pl_4, pl_5, pl_6, pl_7, pl_8, pl_9, pl_10, pl_11, pl_12, pl_13, pl_14, pl_15, pl_31, nI_add, pk_mul, pn_le, pn_lt, pn_eq, nI_clamp, pn_ck, pn_bd, pn_b0, pn_b1, pn_or, pn_andn, pm_andn, Nat.not_lt_zero, Nat.zero_le, ↓reduceIte, Nat.le_refl, m_X7_fault_J313]
  have i225 : m_X7_fault_L225 F zQ kl be le mo now kept F (nI w) (nI 0) = if sF4 X w s then some (nI 4) else some (nI 0) := by
    obtain ⟨n', e⟩ := lpS (L := fun n k => m_X7_fault_L225 F zQ kl be le mo now kept n (nI w) (nI k)) (N := X 8 0) (c := fun g => w.testBit g && decide (X 3 g < s (8 + g)) && nex (fun h => X 0 (6 * g + h) == 1 && (s 7).testBit h) (X 8 0)) (r := some (nI 4)) (by
      intro n k hk2
      show m_X7_fault_L225 F zQ kl be le mo now kept (n + 1) (nI w) (nI k) = _
      rw [u_X7_fault_L225, hq.1]
      have e1 := hq.2.2.2.2.2.1 k (by omega)
      have e2 := (hX.2.2.2.2.2.1 k (by omega)).2
      have e3 := hn (8 + k) (by omega)
      have e4 := hv k (by omega)
      cases h1 : w.testBit k
      · simp (disch := omega) only [pl_0, pl_1, pl_2, pl_3, pl_4, pl_5, pl_6, pl_7, pl_8, pl_9, pl_10, pl_11, pl_12, pl_13, pl_14, pl_15, pl_31, nI_add, pk_mul, pn_le, pn_lt, pn_eq, nI_clamp, pn_ck, pn_bd, pn_b0, pn_b1, pn_or, pn_andn, pm_andn, Nat.not_lt_zero, Nat.zero_le, ↓reduceIte, m_X7_fault_J313, show ¬ X 8 0 ≤ k by omega, h1, Bool.false_and, Bool.false_eq_true]
      · by_cases h3 : X 3 k < s (8 + k)
        · simp (disch := omega) only [pl_0, pl_1, pl_2, pl_3, pl_4, pl_5, pl_6, pl_7, pl_8, pl_9, pl_10, pl_11, pl_12, pl_13, pl_14, pl_15, pl_31, nI_add, pk_mul, pn_le, pn_lt, pn_eq, nI_clamp, pn_ck, pn_bd, pn_b0, pn_b1, pn_or, pn_andn, pm_andn, Nat.not_lt_zero, Nat.zero_le, ↓reduceIte, m_X7_fault_J313, show ¬ X 8 0 ≤ k by omega, h1, Bool.true_eq_false, e1, e3, h3, decide_true, Bool.and_self, Bool.true_and]
          exact i265 _ k hk2
        · simp (disch := omega) only [pl_0, pl_1, pl_2, pl_3, pl_4, pl_5, pl_6, pl_7, pl_8, pl_9, pl_10, pl_11, pl_12, pl_13, pl_14, pl_15, pl_31, nI_add, pk_mul, pn_le, pn_lt, pn_eq, nI_clamp, pn_ck, pn_bd, pn_b0, pn_b1, pn_or, pn_andn, pm_andn, Nat.not_lt_zero, Nat.zero_le, ↓reduceIte, m_X7_fault_J313, show ¬ X 8 0 ≤ k by omega, h1, Bool.true_eq_false, e1, e3, h3, decide_false, Bool.and_false, Bool.false_and, Bool.false_eq_true]) (n := F) (by omega)
    refine Eq.trans e ?_
    show (if _ then _ else m_X7_fault_L225 F zQ kl be le mo now kept (n' + 1) (nI w) (nI (X 8 0))) = _
    rw [u_X7_fault_L225, hq.1, if_pos (nI_le (Nat.le_refl _) (by omega))]
    rfl
  unfold m_X7_fault
  show m_X7_fault_L2 F zQ kl be le mo now kept F (nI b) (nI w) (nI 0) = _
  rw [i2, i67, i172, i225]
  cases sF1 X w <;> cases sF2 X b w s <;> cases sF3 X b w t <;> cases sF4 X w s <;> rfl
