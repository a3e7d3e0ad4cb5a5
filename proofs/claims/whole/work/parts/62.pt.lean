/-! the class reads a plan's text -/
theorem pn_subneg {a b : Nat} (ha : a < 2 ^ 30) (hb : b < 2 ^ 30) (c : Nat) (hc : c < 2 ^ 30) : (nI a - nI b < nI c) = (a < b + c) := by
  apply propext
  rw [Int32.lt_iff_toInt_lt, pk_sub_toInt ha hb, nI_toInt (by omega)]
  omega
theorem pc_ltr {F : Nat} {tx : Nat → Nat} {un n : Nat} {sg : Nat → Int32} (ht : tX tx un sg) (hn : n ≤ 6) (x1 : Int32) (z2 : Int32) (mb : Nat → Int32) : ∀ (d k f b lw : Nat), k + d = un → d < f → lw ≤ 6 → m_X3_parseLetters_L9 F (nI un, z2) sg f x1 (nI n) (nI b) (nI lw) (nI k) mb = m_X3_parseLetters_J67 F (nI un, z2) sg x1 (nI (ltr tx un n d k b lw).2) (nI (ltr tx un n d k b lw).1) mb := by
  have hun := ht.1
  intro d
  induction d with
  | zero =>
    intro k f b lw hk hf hlw
    obtain ⟨f, rfl⟩ : ∃ m, f = m + 1 := ⟨f - 1, by omega⟩
    rw [u_X3_parseLetters_L9, if_pos (show (nI un, z2).1 ≤ nI k from nI_le (by omega) (by omega))]; rfl
  | succ d ih =>
    intro k f b lw hk hf hlw
    obtain ⟨f, rfl⟩ : ∃ m, f = m + 1 := ⟨f - 1, by omega⟩
    obtain ⟨e1, e2, e3⟩ := ht.2 k (by omega)
    rw [u_X3_parseLetters_L9, if_neg (show ¬ (nI un, z2).1 ≤ nI k from nI_ge (by omega) (by omega)), pn_ck (by omega) (by omega), nI_clamp (by omega), e1]
    simp only [pl_65, pn_subneg (show tx k < 2 ^ 30 by omega) (show 65 < 2 ^ 30 by omega) lw (by omega), pn_subneg (show tx k < 2 ^ 30 by omega) (show 65 < 2 ^ 30 by omega) n (by omega)]
    unfold ltr
    by_cases c1 : tx k < 65 + lw
    · rw [if_pos c1, if_neg (by omega)]
    · by_cases c2 : tx k < 65 + n
      · rw [if_neg c1, if_pos c2, if_pos ⟨by omega, by omega, c2⟩, pk_sub (by omega), show (1 : Int32) <<< (nI (tx k - 65) &&& 31) = nI (2 ^ (tx k - 65)) from pn_sl0 _ (by omega), pn_or, nI_1, nI_1]
        exact ih (k + 1) f _ _ (by omega) (by omega) (by omega)
      · rw [if_neg c1, if_neg c2, if_neg (by omega)]
theorem pc_letters {F : Nat} (hF : 2000 ≤ F) {tx : Nat → Nat} {un n : Nat} {sg : Nat → Int32} (ht : tX tx un sg) (hn : n ≤ 6) (z2 : Int32) (mb : Nat → Int32) {j k : Nat} (hj : j < 5) (hk : k ≤ un) : m_X3_parseLetters F (nI j) (nI k) (nI n) (nI un, z2) sg mb = some (if (lBt tx un n k != 0) && dgt tx un (lAt tx un n k) then nI (lAt tx un n k) else -nI (lAt tx un n k + 1), upd mb j (nI (lBt tx un n k))) := by
  have hun := ht.1
  obtain ⟨h1, h2, h3⟩ := lAt_le (tx := tx) (n := n) hn hk
  have h64 : 2 ^ n ≤ 64 := Nat.pow_le_pow_right (n := 2) (by decide) hn
  unfold m_X3_parseLetters
  show m_X3_parseLetters_L9 F (nI un, z2) sg F (nI j) (nI n) (nI 0) (nI 0) (nI k) mb = _
  rw [pc_ltr ht hn _ _ _ (un - k) k F 0 0 (by omega) (by omega) (by omega)]
  show m_X3_parseLetters_J67 F (nI un, z2) sg (nI j) (nI (lBt tx un n k)) (nI (lAt tx un n k)) mb = _
  unfold m_X3_parseLetters_J67
  rw [pn_ck hj (by omega), nI_clamp (by omega), m1_sub]
  by_cases hb : lBt tx un n k = 0
  · rw [if_pos (show nI (lBt tx un n k) = 0 by rw [hb]; rfl), hb]; rfl
  · have hbb : (lBt tx un n k != 0) = true := by simp [hb]
    rw [if_neg (zn0 hb (by omega)), pc_sign ht (by omega), pn_bd, hbb, Bool.true_and]
    by_cases hlt : lAt tx un n k < un
    · have e3 := (ht.2 _ hlt).2.2
      rw [if_pos hlt, pc_dig (by omega), pn_bd]
      have : dgt tx un (lAt tx un n k) = (decide (48 ≤ tx (lAt tx un n k)) && decide (tx (lAt tx un n k) ≤ 57)) := by unfold dgt; rw [decide_eq_true hlt, Bool.true_and]
      rw [this]
      cases (decide (48 ≤ tx (lAt tx un n k)) && decide (tx (lAt tx un n k) ≤ 57))
      · rw [if_pos (show nI (b2n false) = 0 from rfl)]; rfl
      · rw [if_neg (show ¬ nI (b2n true) = 0 by decide)]; rfl
    · have : dgt tx un (lAt tx un n k) = false := by unfold dgt; rw [decide_eq_false hlt]; rfl
      rw [if_neg hlt, pc_dig (by omega), pn_bd, this]; rfl
theorem pc_phase {F : Nat} (hF : 2000 ≤ F) {tx : Nat → Nat} {un n : Nat} {sg : Nat → Int32} (ht : tX tx un sg) (hn : n ≤ 6) (z2 : Int32) (mb so lo : Nat → Int32) {j k : Nat} (hj : j < 5) (hk : k ≤ un) : ∃ z2' so' lo', m_X3_parsePhase F (nI j) (nI k) (nI n) (nI un, z2) sg mb so lo = some (if phO tx un n k then nI (phP tx un n k) else -nI (phP tx un n k + 1), ((nI un, z2'), upd mb j (nI (lBt tx un n k)), so', lo')) ∧ (∀ i, i ≠ j → so' i = so i ∧ lo' i = lo i) ∧ (phO tx un n k = true → so' j = nI (phL tx un n k) ∧ lo' j = nI (phH tx un n k)) := by
  have hun := ht.1
  obtain ⟨h1, h2, h3⟩ := lAt_le (tx := tx) (n := n) hn hk
  have hb1 := bhd_le (tx := tx) h2
  unfold m_X3_parsePhase
  rw [pc_letters hF ht hn z2 mb hj hk, pn_bd]
  -- the first number
  obtain ⟨v1, e1, g1⟩ := pc_numP hF ht z2 (k := lAt tx un n k) (lo := 1) (hi := 15) h2 (by omega) (by omega) (by omega)
  have e1 : m_X3_parseNumber F (nI (lAt tx un n k)) 1 15 (nI un, z2) sg = _ := e1
  by_cases c0 : ((lBt tx un n k != 0) && dgt tx un (lAt tx un n k)) = true
  · rw [if_pos c0, if_pos (show (0 : Int32) ≤ (nI (lAt tx un n k), upd mb j (nI (lBt tx un n k))).1 from nI_pos' (by omega))]
    have cb : (lBt tx un n k != 0) = true := by simp only [Bool.and_eq_true] at c0; exact c0.1
    show ∃ z2' so' lo', gk_bd (m_X3_parseNumber F (nI (lAt tx un n k)) 1 15 (nI un, z2) sg) _ = _ ∧ _
    rw [e1, pn_bd]
    cases c1 : okN tx un (lAt tx un n k) 1 15
    · have hO : phO tx un n k = false := by unfold phO; rw [c1, Bool.and_false]; rfl
      have hP : phP tx un n k = lAt tx un n k := by unfold phP; rw [c1, Bool.and_false]; rfl
      simp only [Bool.false_eq_true, if_false]
      rw [if_neg (show ¬ (0 : Int32) ≤ -nI (lAt tx un n k + 1) from Int32.not_le.mpr (neg_lt (by omega))), hO, hP]
      exact ⟨v1, so, lo, rfl, fun i _ => ⟨rfl, rfl⟩, fun h => absurd h (by decide)⟩
    · have hv1 := g1 c1
      have hnm := nmv_le (tx := tx) h2
      have hlo1 : 1 ≤ nmv tx un (lAt tx un n k) ∧ nmv tx un (lAt tx un n k) ≤ 15 := by
        unfold okN at c1; simp only [Bool.and_eq_true, decide_eq_true_eq] at c1; exact ⟨c1.1.2, c1.2⟩
      simp only [if_true]
      rw [if_pos (show (0 : Int32) ≤ nI (bhd tx un (lAt tx un n k)) from nI_pos' (by omega)), pn_ck hj (by omega), nI_clamp (by omega), pc_sign ht (by omega), pn_bd, hv1]
      cases c2 : sgn tx un (bhd tx un (lAt tx un n k)) 45
      · have hO : phO tx un n k = false := by unfold phO; rw [c2, Bool.and_false]; rfl
        have hP : phP tx un n k = bhd tx un (lAt tx un n k) := by unfold phP; rw [cb, c1, c2]; rfl
        have hne : ¬ nI (if bhd tx un (lAt tx un n k) < un then tx (bhd tx un (lAt tx un n k)) else 0) = 45 := fun h => by
          by_cases hh : bhd tx un (lAt tx un n k) < un
          · rw [if_pos hh] at h
            have := (nI_eq (b := 45) (by have := (ht.2 _ hh).2.2; omega) (by omega)).mp h
            unfold sgn at c2; rw [decide_eq_true hh, this] at c2; exact absurd c2 (by decide)
          · rw [if_neg hh] at h; exact absurd h (by decide)
        rw [if_neg hne, hO, hP, m1_sub]
        refine ⟨_, _, lo, rfl, fun i hi => ⟨upd_ne hi, rfl⟩, fun h => absurd h (by decide)⟩
      · have hlt : bhd tx un (lAt tx un n k) < un ∧ tx (bhd tx un (lAt tx un n k)) = 45 := by
          unfold sgn at c2; simp only [Bool.and_eq_true, decide_eq_true_eq, beq_iff_eq] at c2; exact c2
        rw [if_pos hlt.1, hlt.2, if_pos (show nI 45 = 45 from rfl), nI_1]
        obtain ⟨v2, e2, g2⟩ := pc_numP hF ht (nI (nmv tx un (lAt tx un n k))) (k := bhd tx un (lAt tx un n k) + 1) (lo := nmv tx un (lAt tx un n k)) (hi := 31) (by omega) (by omega) (by omega) (by omega)
        have e2 : m_X3_parseNumber F (nI (bhd tx un (lAt tx un n k) + 1)) (nI (nmv tx un (lAt tx un n k))) 31 (nI un, nI (nmv tx un (lAt tx un n k))) sg = _ := e2
        rw [e2, pn_bd, pn_ck hj (by omega)]
        have hO : phO tx un n k = okN tx un (bhd tx un (lAt tx un n k) + 1) (nmv tx un (lAt tx un n k)) 31 := by unfold phO; rw [cb, c1, c2]; rfl
        have hP : phP tx un n k = if okN tx un (bhd tx un (lAt tx un n k) + 1) (nmv tx un (lAt tx un n k)) 31 = true then bhd tx un (bhd tx un (lAt tx un n k) + 1) else bhd tx un (lAt tx un n k) + 1 := by unfold phP; rw [cb, c1, c2]; rfl
        refine ⟨v2, upd so j (nI (nmv tx un (lAt tx un n k))), upd lo j v2, ?_, fun i hi => ⟨upd_ne hi, upd_ne hi⟩, fun h => ⟨upd_same _ _ _, ?_⟩⟩
        · rw [hO, hP]
          cases okN tx un (bhd tx un (lAt tx un n k) + 1) (nmv tx un (lAt tx un n k)) 31 <;> rfl
        · rw [hO] at h
          rw [upd_same, g2 h]; rfl
  · have c0 : ((lBt tx un n k != 0) && dgt tx un (lAt tx un n k)) = false := by
      cases hx : ((lBt tx un n k != 0) && dgt tx un (lAt tx un n k))
      · rfl
      · exact absurd hx c0
    have hok : ((lBt tx un n k != 0) && okN tx un (lAt tx un n k) 1 15) = false := by
      cases hb : (lBt tx un n k != 0)
      · rfl
      · rw [hb, Bool.true_and] at c0
        unfold okN; rw [c0]; rfl
    have hO : phO tx un n k = false := by unfold phO; rw [hok]; rfl
    have hP : phP tx un n k = lAt tx un n k := by unfold phP; rw [hok]; rfl
    rw [c0]
    simp only [Bool.false_eq_true, if_false]
    rw [if_neg (show ¬ (0 : Int32) ≤ -nI (lAt tx un n k + 1) from Int32.not_le.mpr (neg_lt (by omega))), hO, hP]
    exact ⟨z2, so, lo, rfl, fun i _ => ⟨rfl, rfl⟩, fun h => absurd h (by decide)⟩
theorem pc_parse {F : Nat} (hF : 2000 ≤ F) {tx : Nat → Nat} {un n : Nat} {sg : Nat → Int32} (ht : tX tx un sg) (hn : n ≤ 6) : ∀ (d j f : Nat) (z2 : Int32) (mb so lo : Nat → Int32), j + d = 5 → d < f → phS tx un n j ≤ un → (∀ i, i < j → mb i = nI (lBt tx un n (phS tx un n i)) ∧ so i = nI (phL tx un n (phS tx un n i)) ∧ lo i = nI (phH tx un n (phS tx un n i)) ∧ phO tx un n (phS tx un n i) = true) →
    ∃ z2' mb' so' lo', m_X3_parse_L4 F sg f (nI n) (nI (phS tx un n j)) (nI j) (nI un, z2) mb so lo = some (if (paR tx un n d j (phS tx un n j)).1 then nI (paR tx un n d j (phS tx un n j)).2 else -nI ((paR tx un n d j (phS tx un n j)).2 + 1), ((nI un, z2'), mb', so', lo')) ∧ ((paR tx un n d j (phS tx un n j)).1 = true → (1 ≤ (paR tx un n d j (phS tx un n j)).2 ∧ (paR tx un n d j (phS tx un n j)).2 ≤ 5) ∧ ∀ i, i < (paR tx un n d j (phS tx un n j)).2 → mb' i = nI (lBt tx un n (phS tx un n i)) ∧ so' i = nI (phL tx un n (phS tx un n i)) ∧ lo' i = nI (phH tx un n (phS tx un n i)) ∧ phO tx un n (phS tx un n i) = true) ∧ (paR tx un n d j (phS tx un n j)).2 ≤ 60 := by
  have hun := ht.1
  intro d
  induction d with
  | zero =>
    intro j f z2 mb so lo hj hf hp hd
    obtain ⟨f, rfl⟩ : ∃ m, f = m + 1 := ⟨f - 1, by omega⟩
    refine ⟨z2, mb, so, lo, ?_, fun h => absurd (show false = true from h) (by decide), ?_⟩
    · rw [u_X3_parse_L4, if_pos (show (5 : Int32) ≤ nI j from nI_le (a := 5) (by omega) (by omega)), m1_sub]; rfl
    · show phS tx un n j ≤ 60; omega
  | succ d ih =>
    intro j f z2 mb so lo hj hf hp hd
    obtain ⟨f, rfl⟩ : ∃ m, f = m + 1 := ⟨f - 1, by omega⟩
    have hpp := phP_le (tx := tx) (n := n) hn hp
    obtain ⟨z2', so', lo', e1, g1, g2⟩ := pc_phase hF ht hn z2 mb so lo (j := j) (by omega) hp
    rw [u_X3_parse_L4, if_neg (show ¬ (5 : Int32) ≤ nI j from nI_ge (b := 5) (by omega) (by omega)), e1, pn_bd]
    cases hO : phO tx un n (phS tx un n j)
    · have hB : paR tx un n (d + 1) j (phS tx un n j) = (false, phP tx un n (phS tx un n j)) := by
        show (if phO tx un n (phS tx un n j) = true then _ else _) = _
        rw [hO]; rfl
      rw [hB]
      simp only [Bool.false_eq_true, if_false]
      rw [if_neg (show ¬ (0 : Int32) ≤ -nI (phP tx un n (phS tx un n j) + 1) from Int32.not_le.mpr (neg_lt (by omega)))]
      exact ⟨z2', _, so', lo', rfl, fun h => h.elim, by omega⟩
    · obtain ⟨g3, g4⟩ := g2 hO
      have hall : ∀ i, i < j + 1 → upd mb j (nI (lBt tx un n (phS tx un n j))) i = nI (lBt tx un n (phS tx un n i)) ∧ so' i = nI (phL tx un n (phS tx un n i)) ∧ lo' i = nI (phH tx un n (phS tx un n i)) ∧ phO tx un n (phS tx un n i) = true := fun i hi => by
        by_cases hh : i = j
        · rw [hh, upd_same]; exact ⟨rfl, g3, g4, hO⟩
        · obtain ⟨k1, k2, k3, k4⟩ := hd i (by omega)
          rw [upd_ne hh, (g1 i hh).1, (g1 i hh).2]; exact ⟨k1, k2, k3, k4⟩
      have hB0 : paR tx un n (d + 1) j (phS tx un n j) = (if phP tx un n (phS tx un n j) = un then (true, j + 1) else if sgn tx un (phP tx un n (phS tx un n j)) 59 = true ∧ j + 1 < 5 then paR tx un n d (j + 1) (phP tx un n (phS tx un n j) + 1) else (false, phP tx un n (phS tx un n j))) := by
        show (if phO tx un n (phS tx un n j) = true then _ else _) = _
        rw [hO]; rfl
      simp only [if_true]
      rw [if_pos (show (0 : Int32) ≤ nI (phP tx un n (phS tx un n j)) from nI_pos' (by omega))]
      by_cases hu : phP tx un n (phS tx un n j) = un
      · have hB : paR tx un n (d + 1) j (phS tx un n j) = (true, j + 1) := by rw [hB0, if_pos hu]
        rw [hB, if_neg (show ¬ nI (phP tx un n (phS tx un n j)) < nI un from nI_nlt (by omega) (by omega)), nI_1]
        exact ⟨z2', _, so', lo', rfl, fun _ => ⟨⟨by show 1 ≤ j + 1; omega, by show j + 1 ≤ 5; omega⟩, hall⟩, by show j + 1 ≤ 60; omega⟩
      · have hlt : phP tx un n (phS tx un n j) < un := by omega
        obtain ⟨t1, t2, t3⟩ := ht.2 _ hlt
        rw [if_pos (show nI (phP tx un n (phS tx un n j)) < nI un from nI_lt hlt (by omega)), pn_ck (by omega) (by omega), nI_clamp (by omega), t1, m1_sub]
        have hsg : sgn tx un (phP tx un n (phS tx un n j)) 59 = (tx (phP tx un n (phS tx un n j)) == 59) := by unfold sgn; rw [decide_eq_true hlt, Bool.true_and]
        by_cases h59 : tx (phP tx un n (phS tx un n j)) = 59
        · rw [if_pos (show nI (tx (phP tx un n (phS tx un n j))) = 59 by rw [h59]; rfl)]
          by_cases h4 : j = 4
          · have hB : paR tx un n (d + 1) j (phS tx un n j) = (false, phP tx un n (phS tx un n j)) := by rw [hB0, if_neg hu, if_neg (show ¬ (sgn tx un (phP tx un n (phS tx un n j)) 59 = true ∧ j + 1 < 5) from fun h => by have := h.2; omega)]
            rw [hB, if_pos (show nI j = 4 by rw [h4]; rfl)]
            exact ⟨z2', _, so', lo', rfl, fun h => absurd (show false = true from h) (by decide), by show phP tx un n (phS tx un n j) ≤ 60; omega⟩
          · have hB : paR tx un n (d + 1) j (phS tx un n j) = paR tx un n d (j + 1) (phS tx un n (j + 1)) := by rw [hB0, if_neg hu, if_pos (show sgn tx un (phP tx un n (phS tx un n j)) 59 = true ∧ j + 1 < 5 from ⟨by rw [hsg, h59]; rfl, by omega⟩)]; rfl
            rw [hB, if_neg (show ¬ nI j = 4 from fun h => h4 ((nI_eq (b := 4) (by omega) (by omega)).mp h)), nI_1, nI_1]
            exact ih (j + 1) f z2' _ so' lo' (by omega) (by omega) (show phP tx un n (phS tx un n j) + 1 ≤ un by omega) hall
        · have hB : paR tx un n (d + 1) j (phS tx un n j) = (false, phP tx un n (phS tx un n j)) := by rw [hB0, if_neg hu, if_neg (show ¬ (sgn tx un (phP tx un n (phS tx un n j)) 59 = true ∧ j + 1 < 5) from fun h => by have h1 := h.1; rw [hsg] at h1; exact h59 (by simpa using h1))]
          rw [hB, if_neg (show ¬ nI (tx (phP tx un n (phS tx un n j))) = 59 from fun h => h59 ((nI_eq (b := 59) (by omega) (by omega)).mp h))]
          exact ⟨z2', _, so', lo', rfl, fun h => absurd (show false = true from h) (by decide), by show phP tx un n (phS tx un n j) ≤ 60; omega⟩
