/-! the reference reads a plan's text -/
abbrev QT := Int32 × Int32 × Int32 × Int32 × Int32 × Int32 × Int32 × Int32 × Int32 × Int32 × Int32
theorem pq_sign {F : Nat} {tx : Nat → Nat} {un : Nat} {sg : Nat → Int32} (ht : tX tx un sg) {zQ : QT} (hu : zQ.2.2.2.1 = nI un) {k : Nat} (hk : k ≤ 1000) : m_X7_sign F (nI k) zQ sg = some (if k < un then nI (tx k) else -1) := by
  have hun := ht.1
  unfold m_X7_sign
  rw [hu]
  by_cases h : k < un
  · rw [if_neg (nI_ge h (by omega)), pn_ck (by omega) (by omega), nI_clamp (by omega), (ht.2 k h).1, if_pos h]
  · rw [if_pos (nI_le (by omega) (by omega)), if_neg h]
theorem pq_dig {F : Nat} {tx : Nat → Nat} {un : Nat} {sg : Nat → Int32} (ht : tX tx un sg) {zQ : QT} (hu : zQ.2.2.2.1 = nI un) {k : Nat} (hk : k ≤ 1000) : m_X7_isDigit F (nI k) zQ sg = some (nI (b2n (dgt tx un k))) := by
  unfold m_X7_isDigit dgt
  rw [pq_sign ht hu hk, pn_bd]
  by_cases h : k < un
  · have e3 := (ht.2 k h).2.2
    rw [if_pos h, pn_bd]
    simp (disch := omega) only [pl_48, pl_57, pn_lt]
    rw [decide_eq_true h, Bool.true_and]
    by_cases h1 : tx k < 48
    · rw [if_pos h1, decide_eq_false (by omega), Bool.false_and]; rfl
    · by_cases h2 : 57 < tx k
      · rw [if_neg h1, if_pos h2, decide_eq_false (show ¬ tx k ≤ 57 by omega), Bool.and_false]; rfl
      · rw [if_neg h1, if_neg h2, decide_eq_true (show 48 ≤ tx k by omega), decide_eq_true (show tx k ≤ 57 by omega)]; rfl
  · rw [if_neg h, decide_eq_false h, if_pos (show (-1 : Int32) < 48 by decide)]; rfl
theorem pq_behind {F : Nat} (hF : 2000 ≤ F) {tx : Nat → Nat} {un : Nat} {sg : Nat → Int32} (ht : tX tx un sg) {zQ : QT} (hu : zQ.2.2.2.1 = nI un) {k : Nat} (hk : k ≤ un) : m_X7_behind F (nI k) zQ sg = some (nI (bhd tx un k)) := by
  have hun := ht.1
  have key : ∀ (d k n v : Nat), k + d = un → d < n → m_X7_behind_L2 F zQ sg n (nI k) = some (nI (nbh tx un d k v).1) := by
    intro d
    induction d with
    | zero =>
      intro k n v hk hn
      obtain ⟨n, rfl⟩ : ∃ m, n = m + 1 := ⟨n - 1, by omega⟩
      rw [u_X7_behind_L2, pq_dig ht hu (by omega), pn_bd]
      have : dgt tx un k = false := by unfold dgt; rw [decide_eq_false (by omega)]; rfl
      rw [this, if_pos (show nI (b2n false) = 0 from rfl)]; rfl
    | succ d ih =>
      intro k n v hk hn
      obtain ⟨n, rfl⟩ : ∃ m, n = m + 1 := ⟨n - 1, by omega⟩
      rw [u_X7_behind_L2, pq_dig ht hu (by omega), pn_bd]
      unfold nbh
      cases dgt tx un k
      · rw [if_pos (show nI (b2n false) = 0 from rfl)]; rfl
      · rw [if_neg (show ¬ nI (b2n true) = 0 by decide), nI_1]
        exact ih (k + 1) n _ (by omega) (by omega)
  unfold m_X7_behind
  exact key (un - k) k F 0 (by omega) (by omega)
theorem pq_number {F : Nat} (hF : 2000 ≤ F) {tx : Nat → Nat} {un : Nat} {sg : Nat → Int32} (ht : tX tx un sg) {zQ : QT} (hu : zQ.2.2.2.1 = nI un) {k : Nat} (hk : k ≤ un) : ∃ r, m_X7_number F (nI k) zQ sg = some (if dgt tx un k && (tx k != 48) then nI r else -1) ∧ ((r ≤ 31 ∧ nmv tx un k = r) ∨ (32 ≤ r ∧ r ≤ 1000 ∧ nmv tx un k = 32)) := by
  have hun := ht.1
  have key : ∀ (d k n v r : Nat), k + d = un → d < n → ((r ≤ 31 ∧ v = r) ∨ (32 ≤ r ∧ r ≤ 1000 ∧ v = 32)) → ∃ r', m_X7_number_L24 F zQ sg n (nI r) (nI k) = some (nI r') ∧ ((r' ≤ 31 ∧ (nbh tx un d k v).2 = r') ∨ (32 ≤ r' ∧ r' ≤ 1000 ∧ (nbh tx un d k v).2 = 32)) := by
    intro d
    induction d with
    | zero =>
      intro k n v r hk hn hr
      obtain ⟨n, rfl⟩ : ∃ m, n = m + 1 := ⟨n - 1, by omega⟩
      have : dgt tx un k = false := by unfold dgt; rw [decide_eq_false (by omega)]; rfl
      refine ⟨r, ?_, hr⟩
      rw [u_X7_number_L24, pq_dig ht hu (by omega), pn_bd, this, if_pos (show nI (b2n false) = 0 from rfl)]
    | succ d ih =>
      intro k n v r hk hn hr
      obtain ⟨n, rfl⟩ : ∃ m, n = m + 1 := ⟨n - 1, by omega⟩
      obtain ⟨e1, e2, e3⟩ := ht.2 k (by omega)
      rw [u_X7_number_L24, pq_dig ht hu (by omega), pn_bd]
      unfold nbh m_X7_number_J57
      cases hd : dgt tx un k
      · rw [if_pos (show nI (b2n false) = 0 from rfl)]
        exact ⟨r, rfl, hr⟩
      · have hdd : 48 ≤ tx k ∧ tx k ≤ 57 := by unfold dgt at hd; simp at hd; omega
        rw [if_neg (show ¬ nI (b2n true) = 0 by decide), pq_sign ht hu (by omega), pn_bd, if_pos (show k < un by omega), nI_1]
        simp only [if_true]
        by_cases h99 : r ≤ 99
        · rw [if_pos (show nI r ≤ 99 from nI_le (b := 99) h99 (by omega)), show (10 : Int32) * nI r = nI (10 * r) from pk_mul 10 r, nI_add, show nI (10 * r + tx k) - 48 = nI (10 * r + tx k - 48) from pk_sub (b := 48) (by omega)]
          refine ih (k + 1) n _ (10 * r + tx k - 48) (by omega) (by omega) ?_
          rcases hr with ⟨h1, h2⟩ | ⟨h1, h2, h3⟩
          · subst h2
            by_cases hh : 32 < v * 10 + tx k - 48
            · rw [if_pos hh]; right; omega
            · rw [if_neg hh]
              by_cases h32 : v * 10 + tx k - 48 = 32
              · right; omega
              · left; omega
          · rw [h3, if_pos (by omega)]; right; omega
        · rw [if_neg (show ¬ nI r ≤ 99 from nI_ge (a := 99) (by omega) (by omega))]
          show ∃ r', m_X7_number_L24 F zQ sg n (nI 1000) (nI (k + 1)) = _ ∧ _
          refine ih (k + 1) n _ 1000 (by omega) (by omega) ?_
          rcases hr with ⟨h1, h2⟩ | ⟨h1, h2, h3⟩
          · omega
          · rw [h3, if_pos (by omega)]; right; omega
  obtain ⟨r, g1, g2⟩ := key (un - k) k F 0 0 (by omega) (by omega) (Or.inl ⟨by omega, rfl⟩)
  refine ⟨r, ?_, g2⟩
  unfold m_X7_number
  rw [pq_dig ht hu (by omega), pn_bd]
  cases hd : dgt tx un k
  · rw [if_pos (show nI (b2n false) = 0 from rfl)]; rfl
  · have hku : k < un := by unfold dgt at hd; simp at hd; omega
    have e3 := (ht.2 k hku).2.2
    rw [if_neg (show ¬ nI (b2n true) = 0 by decide), pq_sign ht hu (by omega), pn_bd, if_pos hku, Bool.true_and]
    by_cases h48 : tx k = 48
    · rw [if_pos (show nI (tx k) = 48 by rw [h48]; rfl), h48]; rfl
    · have : (tx k != 48) = true := by simp [h48]
      rw [if_neg (show ¬ nI (tx k) = 48 from fun h => h48 ((nI_eq (b := 48) (by omega) (by omega)).mp h)), this]
      exact g1
theorem pn_subneg2 {a b c : Nat} (ha : a < 2 ^ 30) (hb : b < 2 ^ 30) (hc : c < 2 ^ 30) : (nI a - nI b ≤ nI c - nI 1) = (a + 1 ≤ b + c) := by
  apply propext
  rw [Int32.le_iff_toInt_le, pk_sub_toInt ha hb, pk_sub_toInt hc (by omega)]
  omega
theorem pq_phase {F : Nat} (hF : 2000 ≤ F) {tx : Nat → Nat} {un n : Nat} {sg : Nat → Int32} (ht : tX tx un sg) (hn : n ≤ 6) (q1 q3 q5 q6 q7 q8 q9 q10 q11 : Int32) (gr so lo : Nat → Int32) {sl k : Nat} (hsl : sl < 15) (hk : k ≤ un) :
    ∃ q11', m_X7_phase F (nI k) (nI sl) (q1, nI n, q3, nI un, q5, q6, q7, q8, q9, q10, q11) gr so lo sg = some (if phO tx un n k then nI (phP tx un n k) else -1, ((q1, nI n, q3, nI un, q5, q6, q7, q8, q9, q10, q11'), (if phO tx un n k then upd gr sl (nI (lBt tx un n k)) else gr), (if phO tx un n k then upd so sl (nI (phL tx un n k)) else so), (if phO tx un n k then upd lo sl (nI (phH tx un n k)) else lo))) ∧ (phO tx un n k = false → q11' = nI (phP tx un n k)) := by
  have hun := ht.1
  obtain ⟨h1, h2, h3⟩ := lAt_le (tx := tx) (n := n) hn hk
  have h64 : 2 ^ n ≤ 64 := Nat.pow_le_pow_right (n := 2) (by decide) hn
  have hb1 := bhd_le (tx := tx) h2
  have key : ∀ (d k f b lw : Nat), k + d = un → d < f → lw ≤ 6 → m_X7_phase_L8 F sg f (nI sl) (nI k) (nI b) (nI lw - nI 1) (q1, nI n, q3, nI un, q5, q6, q7, q8, q9, q10, q11) gr so lo = m_X7_phase_J71 F sg (nI sl) (nI (ltr tx un n d k b lw).1) (nI (ltr tx un n d k b lw).2) (q1, nI n, q3, nI un, q5, q6, q7, q8, q9, q10, q11) gr so lo := by
    intro d
    induction d with
    | zero =>
      intro k f b lw hk hf hlw
      obtain ⟨f, rfl⟩ : ∃ m, f = m + 1 := ⟨f - 1, by omega⟩
      rw [u_X7_phase_L8, pq_sign ht rfl (by omega), pn_bd, if_neg (show ¬ k < un by omega), if_pos (show (-1 : Int32) < 65 by decide)]; rfl
    | succ d ih =>
      intro k f b lw hk hf hlw
      obtain ⟨f, rfl⟩ : ∃ m, f = m + 1 := ⟨f - 1, by omega⟩
      obtain ⟨e1, e2, e3⟩ := ht.2 k (by omega)
      rw [u_X7_phase_L8, pq_sign ht rfl (by omega), pn_bd, pn_bd, pn_bd, pn_bd, if_pos (show k < un by omega)]
      have c65 : ((65 : Int32) + nI n ≤ nI (tx k)) = (65 + n ≤ tx k) := by
        rw [show (65 : Int32) + nI n = nI (65 + n) from nI_add 65 n]; exact pn_le (by omega) (by omega)
      have c66 : (nI (tx k) - 65 ≤ nI lw - nI 1) = (tx k + 1 ≤ 65 + lw) := pn_subneg2 (b := 65) (by omega) (by omega) (by omega)
      have c64 : (nI (tx k) < 65) = (tx k < 65) := pn_lt (b := 65) (by omega) (by omega)
      show (if nI (tx k) < 65 then _ else (if (65 : Int32) + nI n ≤ nI (tx k) then _ else (if nI (tx k) - 65 ≤ nI lw - nI 1 then _ else m_X7_phase_L8 F sg f (nI sl) (nI k + 1) (nI b ||| (1 <<< ((nI (tx k) - 65) &&& 31))) (nI (tx k) - 65) _ gr so lo))) = _
      simp only [c64, c65, c66]
      unfold ltr
      by_cases a1 : tx k < 65
      · rw [if_pos a1, if_neg (by omega)]
      · by_cases a2 : 65 + n ≤ tx k
        · rw [if_neg a1, if_pos a2, if_neg (by omega)]
        · by_cases a3 : tx k + 1 ≤ 65 + lw
          · rw [if_neg a1, if_neg a2, if_pos a3, if_neg (by omega)]
          · rw [if_neg a1, if_neg a2, if_neg a3, if_pos ⟨by omega, by omega, by omega⟩, show nI (tx k) - 65 = nI (tx k - 65) from pk_sub (b := 65) (by omega), show (1 : Int32) <<< (nI (tx k - 65) &&& 31) = nI (2 ^ (tx k - 65)) from pn_sl0 _ (by omega), pn_or, nI_1]
            have := ih (k + 1) f (b ||| 2 ^ (tx k - 65)) (tx k - 65 + 1) (by omega) (by omega) (by omega)
            rw [show nI (tx k - 65 + 1) - nI 1 = nI (tx k - 65) from nI_pred _] at this
            exact this
  unfold m_X7_phase
  show ∃ q11', m_X7_phase_L8 F sg F (nI sl) (nI k) (nI 0) (nI 0 - nI 1) (q1, nI n, q3, nI un, q5, q6, q7, q8, q9, q10, q11) gr so lo = _ ∧ _
  rw [key (un - k) k F 0 0 (by omega) (by omega) (by omega)]
  show ∃ q11', m_X7_phase_J71 F sg (nI sl) (nI (lAt tx un n k)) (nI (lBt tx un n k)) (q1, nI n, q3, nI un, q5, q6, q7, q8, q9, q10, q11) gr so lo = _ ∧ _
  unfold m_X7_phase_J71
  obtain ⟨r1, e1, g1⟩ := pq_number hF ht (zQ := (q1, nI n, q3, nI un, q5, q6, q7, q8, q9, q10, nI (lAt tx un n k))) rfl h2
  by_cases hb : lBt tx un n k = 0
  · have hO : phO tx un n k = false := by unfold phO; rw [hb]; rfl
    have hP : phP tx un n k = lAt tx un n k := by unfold phP; rw [hb]; rfl
    rw [if_pos (show nI (lBt tx un n k) = 0 by rw [hb]; rfl), hO, hP]
    exact ⟨_, rfl, fun _ => rfl⟩
  · have cb : (lBt tx un n k != 0) = true := by simp [hb]
    rw [if_neg (zn0 hb (by omega)), e1, pn_bd]
    by_cases c1 : okN tx un (lAt tx un n k) 1 15 = true
    · obtain ⟨⟨⟨d1, d2⟩, d3⟩, d4⟩ : ((dgt tx un (lAt tx un n k) = true ∧ (tx (lAt tx un n k) != 48) = true) ∧ 1 ≤ nmv tx un (lAt tx un n k)) ∧ nmv tx un (lAt tx un n k) ≤ 15 := by
        unfold okN at c1; simp only [Bool.and_eq_true, decide_eq_true_eq] at c1; exact c1
      have hr1 : r1 = nmv tx un (lAt tx un n k) := by omega
      rw [d1, d2, hr1]
      show ∃ q11', (if nI (nmv tx un (lAt tx un n k)) < 1 then _ else (if nI (nmv tx un (lAt tx un n k)) ≤ 15 then gk_bd (m_X7_behind F (nI (lAt tx un n k)) _ sg) _ else _)) = _ ∧ _
      rw [if_neg (show ¬ nI (nmv tx un (lAt tx un n k)) < 1 from nI_nlt (b := 1) d3 (by omega)), if_pos (show nI (nmv tx un (lAt tx un n k)) ≤ 15 from nI_le (b := 15) d4 (by omega)), pq_behind hF ht rfl h2, pn_bd, pq_sign ht rfl (by omega), pn_bd]
      cases c2 : sgn tx un (bhd tx un (lAt tx un n k)) 45
      · have hO : phO tx un n k = false := by unfold phO; rw [c2, Bool.and_false]; rfl
        have hP : phP tx un n k = bhd tx un (lAt tx un n k) := by unfold phP; rw [cb, c1, c2]; rfl
        have hne : ¬ (if bhd tx un (lAt tx un n k) < un then nI (tx (bhd tx un (lAt tx un n k))) else -1) = 45 := fun h => by
          by_cases hh : bhd tx un (lAt tx un n k) < un
          · rw [if_pos hh] at h
            have := (nI_eq (b := 45) (by have := (ht.2 _ hh).2.2; omega) (by omega)).mp h
            unfold sgn at c2; rw [decide_eq_true hh, this] at c2; exact absurd c2 (by decide)
          · rw [if_neg hh] at h; exact absurd h (by decide)
        rw [if_neg hne, hO, hP]
        exact ⟨_, rfl, fun _ => rfl⟩
      · have hlt : bhd tx un (lAt tx un n k) < un ∧ tx (bhd tx un (lAt tx un n k)) = 45 := by
          unfold sgn at c2; simp only [Bool.and_eq_true, decide_eq_true_eq, beq_iff_eq] at c2; exact c2
        rw [if_pos hlt.1, hlt.2, if_pos (show nI 45 = 45 from rfl), nI_1]
        obtain ⟨r2, e2, g2⟩ := pq_number hF ht (zQ := (q1, nI n, q3, nI un, q5, q6, q7, q8, q9, q10, nI (bhd tx un (lAt tx un n k) + 1))) rfl (k := bhd tx un (lAt tx un n k) + 1) (by omega)
        show ∃ q11', gk_bd (m_X7_number F (nI (bhd tx un (lAt tx un n k) + 1)) (q1, nI n, q3, nI un, q5, q6, q7, q8, q9, q10, nI (bhd tx un (lAt tx un n k) + 1)) sg) _ = _ ∧ _
        rw [e2, pn_bd]
        have hO : phO tx un n k = okN tx un (bhd tx un (lAt tx un n k) + 1) (nmv tx un (lAt tx un n k)) 31 := by unfold phO; rw [cb, c1, c2]; rfl
        have hP : phP tx un n k = if okN tx un (bhd tx un (lAt tx un n k) + 1) (nmv tx un (lAt tx un n k)) 31 = true then bhd tx un (bhd tx un (lAt tx un n k) + 1) else bhd tx un (lAt tx un n k) + 1 := by unfold phP; rw [cb, c1, c2]; rfl
        by_cases c3 : okN tx un (bhd tx un (lAt tx un n k) + 1) (nmv tx un (lAt tx un n k)) 31 = true
        · obtain ⟨⟨⟨f1, f2⟩, f3⟩, f4⟩ : ((dgt tx un (bhd tx un (lAt tx un n k) + 1) = true ∧ (tx (bhd tx un (lAt tx un n k) + 1) != 48) = true) ∧ nmv tx un (lAt tx un n k) ≤ nmv tx un (bhd tx un (lAt tx un n k) + 1)) ∧ nmv tx un (bhd tx un (lAt tx un n k) + 1) ≤ 31 := by
            unfold okN at c3; simp only [Bool.and_eq_true, decide_eq_true_eq] at c3; exact c3
          have hr2 : r2 = nmv tx un (bhd tx un (lAt tx un n k) + 1) := by omega
          rw [f1, f2, hr2]
          show ∃ q11', (if nI (nmv tx un (bhd tx un (lAt tx un n k) + 1)) < nI (nmv tx un (lAt tx un n k)) then _ else (if nI (nmv tx un (bhd tx un (lAt tx un n k) + 1)) ≤ 31 then gk_ck (nI sl) 15 _ else _)) = _ ∧ _
          rw [if_neg (nI_nlt f3 (by omega)), if_pos (show nI (nmv tx un (bhd tx un (lAt tx un n k) + 1)) ≤ 31 from nI_le (b := 31) f4 (by omega)), pn_ck hsl (by omega), pn_ck hsl (by omega), pn_ck hsl (by omega), nI_clamp (by omega)]
          show ∃ q11', gk_bd (m_X7_behind F (nI (bhd tx un (lAt tx un n k) + 1)) _ sg) _ = _ ∧ _
          rw [pq_behind hF ht rfl (by omega), pn_bd, hO, hP, c3]
          exact ⟨_, rfl, fun h => absurd h (by decide)⟩
        · have c3' : okN tx un (bhd tx un (lAt tx un n k) + 1) (nmv tx un (lAt tx un n k)) 31 = false := by
            cases hx : okN tx un (bhd tx un (lAt tx un n k) + 1) (nmv tx un (lAt tx un n k)) 31
            · rfl
            · exact absurd hx c3
          rw [hO, hP, c3']
          refine ⟨nI (bhd tx un (lAt tx un n k) + 1), ?_, fun _ => rfl⟩
          cases hdd : (dgt tx un (bhd tx un (lAt tx un n k) + 1) && (tx (bhd tx un (lAt tx un n k) + 1) != 48))
          · show (if (-1 : Int32) < nI (nmv tx un (lAt tx un n k)) then _ else _) = _
            rw [if_pos (show (-1 : Int32) < nI (nmv tx un (lAt tx un n k)) from Int32.lt_of_lt_of_le (show (-1 : Int32) < 0 by decide) (nI_pos' (by omega)))]; rfl
          · show (if nI r2 < nI (nmv tx un (lAt tx un n k)) then _ else (if nI r2 ≤ 31 then _ else _)) = _
            have hbad : r2 < nmv tx un (lAt tx un n k) ∨ 31 < r2 := by
              rcases Nat.lt_or_ge r2 (nmv tx un (lAt tx un n k)) with h | h
              · exact Or.inl h
              · right
                rcases Nat.lt_or_ge 31 r2 with h' | h'
                · exact h'
                · exfalso
                  unfold okN at c3'
                  rw [hdd, Bool.true_and, decide_eq_true (show nmv tx un (lAt tx un n k) ≤ nmv tx un (bhd tx un (lAt tx un n k) + 1) by omega), decide_eq_true (show nmv tx un (bhd tx un (lAt tx un n k) + 1) ≤ 31 by omega)] at c3'
                  exact absurd c3' (by decide)
            rcases hbad with h | h
            · rw [if_pos (nI_lt h (by omega))]; rfl
            · by_cases h' : r2 < nmv tx un (lAt tx un n k)
              · rw [if_pos (nI_lt h' (by omega))]; rfl
              · rw [if_neg (nI_nlt (by omega) (by omega)), if_neg (show ¬ nI r2 ≤ 31 from nI_ge (a := 31) h (by omega))]; rfl
    · have c1' : okN tx un (lAt tx un n k) 1 15 = false := by
        cases hx : okN tx un (lAt tx un n k) 1 15
        · rfl
        · exact absurd hx c1
      have hO : phO tx un n k = false := by unfold phO; rw [c1', Bool.and_false]; rfl
      have hP : phP tx un n k = lAt tx un n k := by unfold phP; rw [c1', Bool.and_false]; rfl
      rw [hO, hP]
      refine ⟨nI (lAt tx un n k), ?_, fun _ => rfl⟩
      cases hdd : (dgt tx un (lAt tx un n k) && (tx (lAt tx un n k) != 48))
      · show (if (-1 : Int32) < 1 then _ else _) = _
        rw [if_pos (show (-1 : Int32) < 1 by decide)]; rfl
      · show (if nI r1 < 1 then _ else (if nI r1 ≤ 15 then _ else _)) = _
        have hbad : r1 < 1 ∨ 15 < r1 := by
          rcases Nat.lt_or_ge r1 1 with h | h
          · exact Or.inl h
          · right
            rcases Nat.lt_or_ge 15 r1 with h' | h'
            · exact h'
            · exfalso
              unfold okN at c1'
              rw [hdd, Bool.true_and, decide_eq_true (show 1 ≤ nmv tx un (lAt tx un n k) by omega), decide_eq_true (show nmv tx un (lAt tx un n k) ≤ 15 by omega)] at c1'
              exact absurd c1' (by decide)
        rcases hbad with h | h
        · rw [if_pos (show nI r1 < 1 from nI_lt (b := 1) h (by omega))]; rfl
        · rw [if_neg (show ¬ nI r1 < 1 from nI_nlt (b := 1) (by omega) (by omega)), if_neg (show ¬ nI r1 ≤ 15 from nI_ge (a := 15) h (by omega))]; rfl
