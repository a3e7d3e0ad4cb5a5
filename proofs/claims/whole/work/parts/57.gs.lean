/-! the reference's longest wait -/
theorem nmax_ge {f : Nat → Nat} : ∀ {n s : Nat}, s < n → f s ≤ nmax f n := by
  intro n
  induction n with
  | zero => intro s h; omega
  | succ n ih =>
    intro s h
    simp only [nmax]
    by_cases hh : s = n
    · subst hh; split <;> omega
    · have := ih (show s < n by omega); split <;> omega
theorem nmax_at {f : Nat → Nat} : ∀ {n : Nat}, nmax f n = 0 ∨ ∃ s, s < n ∧ f s = nmax f n := by
  intro n
  induction n with
  | zero => exact Or.inl rfl
  | succ n ih =>
    simp only [nmax]
    split
    · exact Or.inr ⟨n, by omega, rfl⟩
    · rcases ih with h | ⟨s, h1, h2⟩
      · exact Or.inl h
      · exact Or.inr ⟨s, by omega, h2⟩
theorem fix_bound {fd E : Nat} {w : Nat → Bool} {nx : Nat → Nat} {f : Nat → Nat} (hpos : ∀ s, s < fd → w s = true → 1 ≤ f s) (hfix : ∀ s e, s < fd → w s = true → e < E → f (nx (10 * s + e)) + 1 ≤ f s) : ∀ k s, chF fd E w nx s k → k ≤ f s := by
  intro k
  induction k with
  | zero => intro s _; exact Nat.zero_le _
  | succ k ih =>
    intro s h
    have hs : s < fd ∧ w s = true := by
      obtain ⟨p, p0, p1, -⟩ := h
      have := p1 0 (by omega)
      rwa [p0] at this
    cases k with
    | zero => exact hpos s hs.1 hs.2
    | succ k =>
      obtain ⟨e, he, h2⟩ := chF_tail h
      have h3 := ih _ h2
      have h4 := hfix s e hs.1 hs.2 he
      omega
theorem pq_longest {X : Nat → Nat → Nat} (hX : xG X) {F : Nat} (hF : 2000 ≤ F) {lim : Nat} (hlim : lim ≤ 400) {D : BD} {st cf cb ld : Nat → Int32} (hw : bW X lim D) (hd : qD D st cf cb) (hx : dNx X D ld D.1 0) (q1 q4 q5 q6 q10 q11 : Int32) (wz : Nat → Int32) {g : Nat} (hg : g < X 8 0) :
    ∃ r wz', m_X7_longest F (nI g) (q1, nI (X 8 0), nI (X 8 1), q4, q5, q6, nI 1, nI D.1, nI (xE X), q10, q11) st ld wz = some (r, ((0, nI (X 8 0), nI (X 8 1), q4, q5, q6, nI 1, nI D.1, nI (xE X), q10, q11), wz')) ∧ lgR D.1 (xE X) (fun i => (D.2.1 i 7).testBit g) D.2.2.2.2 r := by
  have hE := xE_le hX
  have hN := hX.2.1
  have hfd : D.1 ≤ 400 := by have := hw.1.2; omega
  have hld : ∀ s e, s < D.1 → e < xE X → ld (10 * s + e) = nI (D.2.2.2.2 (10 * s + e)) := fun s e hs he => (hx s e he (Or.inl hs)).1
  have hnx : ∀ s e, s < D.1 → e < xE X → D.2.2.2.2 (10 * s + e) < D.1 := fun s e hs he => (hx s e he (Or.inl hs)).2
  generalize hwd : (fun i => (D.2.1 i 7).testBit g) = w
  have hwi : ∀ i, (D.2.1 i 7).testBit g = w i := fun i => by rw [← hwd]
  unfold m_X7_longest
  rw [if_pos (show (q1, nI (X 8 0), nI (X 8 1), q4, q5, q6, nI 1, nI D.1, nI (xE X), q10, q11).2.2.2.2.2.2.1 = 1 from rfl)]
  have hgrp : ∀ z : Int32 × Int32 × Int32 × Int32 × Int32 × Int32 × Int32 × Int32 × Int32 × Int32 × Int32, z.2.1 = nI (X 8 0) → m_X7_isGroup F (nI g) z = some 1 := fun z hz => by
    unfold m_X7_isGroup
    rw [hz, if_neg (nI_pos (by omega)), if_neg (nI_ge hg (by omega))]
  rw [hgrp _ rfl, pn_bd, if_neg (show ¬ (1 : Int32) = 0 by decide)]
  show ∃ r wz', m_X7_longest_L26 F st ld F (nI g) (nI 0) (0, nI (X 8 0), nI (X 8 1), q4, q5, q6, nI 1, nI D.1, nI (xE X), q10, q11) wz = _ ∧ _
  generalize hz0 : ((0, nI (X 8 0), nI (X 8 1), q4, q5, q6, nI 1, nI D.1, nI (xE X), q10, q11) : Int32 × Int32 × Int32 × Int32 × Int32 × Int32 × Int32 × Int32 × Int32 × Int32 × Int32) = zq
  have hzf : zq.2.2.2.2.2.2.2.1 = nI D.1 := by rw [← hz0]
  obtain ⟨n1, a1, e1, h1⟩ := lpA (L := fun n k a => m_X7_longest_L26 F st ld n (nI g) (nI k) zq a) (N := D.1) (Inv := fun k a => ∀ i, i < k → a i = nI (b2n (w i))) (by
    intro n k a hk hi
    refine ⟨upd a k (nI (b2n (w k))), ?_, fun i h => ?_⟩
    · show m_X7_longest_L26 F st ld (n + 1) (nI g) (nI k) zq a = m_X7_longest_L26 F st ld n (nI g) (nI (k + 1)) zq (upd a k (nI (b2n (w k))))
      rw [u_X7_longest_L26, hzf, if_neg (nI_ge hk (by omega)), pq_wait hX hd hk hfd (by omega), pn_bd, hwi]
      unfold m_X7_longest_J53
      rw [pn_ck (by omega) (by omega), nI_clamp (by omega), nI_1, pn_ck (by omega) (by omega)]
      cases w k <;> rfl
    · by_cases hh : i = k
      · rw [hh, upd_same]
      · rw [upd_ne hh]; exact hi i (by omega)) D.1 F 0 wz (by omega) (by omega) (fun i h => by omega)
  have e1 : m_X7_longest_L26 F st ld F (nI g) (nI 0) zq wz = m_X7_longest_L26 F st ld (n1 + 1) (nI g) (nI D.1) zq a1 := e1
  rw [e1, u_X7_longest_L26, hzf, if_pos (nI_le (Nat.le_refl _) (by omega))]
  -- the greatest
  have hmax : ∀ (f : Nat → Nat) (wz : Nat → Int32), (∀ i, i < D.1 → wz i = nI (f i)) → (∀ i, i < D.1 → f i < 2 ^ 30) → m_X7_longest_L197 F st ld F (nI 0) (nI 0) zq wz = some (nI (nmax f D.1), (zq, wz)) := by
    intro f wz hz hlt
    obtain ⟨n2, a2, e2, h2⟩ := lpA (L := fun n k a => m_X7_longest_L197 F st ld n a (nI k) zq wz) (N := D.1) (Inv := fun k a => a = nI (nmax f k)) (by
      intro n k a hk hi
      subst hi
      refine ⟨_, ?_, rfl⟩
      show m_X7_longest_L197 F st ld (n + 1) (nI (nmax f k)) (nI k) zq wz = m_X7_longest_L197 F st ld n (nI (nmax f (k + 1))) (nI (k + 1)) zq wz
      have hm : nmax f k < 2 ^ 30 := by
        rcases nmax_at (f := f) (n := k) with h | ⟨s, g1, g2⟩
        · omega
        · rw [← g2]; exact hlt s (by omega)
      have hfk := hlt k hk
      rw [u_X7_longest_L197, hzf, if_neg (nI_ge hk (by omega)), pn_ck (by omega) (by omega), nI_clamp (by omega), hz k hk]
      unfold m_X7_longest_J230
      rw [pn_ck (by omega) (by omega), nI_1]
      simp only [nmax]
      by_cases hh : nmax f k < f k
      · rw [if_neg (nI_ge hh (by omega)), if_pos hh]
      · rw [if_pos (nI_le (by omega) (by omega)), if_neg hh]) D.1 F 0 (nI 0) (by omega) (by omega) rfl
    have e2 : m_X7_longest_L197 F st ld F (nI 0) (nI 0) zq wz = m_X7_longest_L197 F st ld (n2 + 1) a2 (nI D.1) zq wz := e2
    rw [e2, h2, u_X7_longest_L197, hzf, if_pos (nI_le (Nat.le_refl _) (by omega))]
  -- the rounds
  have rounds : ∀ (d r n : Nat) (mo : Bool) (f : Nat → Nat) (wz : Nat → Int32), r + d = D.1 + 1 → d < n → wI D.1 (xE X) w D.2.2.2.2 (4000 * r) f → wL D.1 (xE X) w D.2.2.2.2 (r + 1) f → (∀ i, i < D.1 → wz i = nI (f i)) → (mo = true → r = 0 ∨ pth D.1 (xE X) w D.2.2.2.2 (r + 1)) → (mo = false → ∀ s e, s < D.1 → w s = true → e < xE X → f (D.2.2.2.2 (10 * s + e)) + 1 ≤ f s) →
      ∃ r' wz', m_X7_longest_L64 F st ld n (nI (b2n mo)) (nI r) zq wz = some (r', (zq, wz')) ∧ lgR D.1 (xE X) w D.2.2.2.2 r' := by
    have fin : ∀ (r : Nat) (f : Nat → Nat) (wz : Nat → Int32), r ≤ D.1 + 1 → wI D.1 (xE X) w D.2.2.2.2 (4000 * r) f → (∀ i, i < D.1 → wz i = nI (f i)) → (∀ s e, s < D.1 → w s = true → e < xE X → f (D.2.2.2.2 (10 * s + e)) + 1 ≤ f s) → ∃ r' wz', m_X7_longest_J185 F st ld (nI 0) zq wz = some (r', (zq, wz')) ∧ lgR D.1 (xE X) w D.2.2.2.2 r' := by
      intro r f wz hr hI hz hfix
      have hlt : ∀ i, i < D.1 → f i < 2 ^ 30 := fun i hi => by have := hI.2.2 i hi; omega
      refine ⟨_, wz, ?_, Or.inr ⟨nmax f D.1, rfl, ?_, fun k hk => ?_, ?_⟩⟩
      · unfold m_X7_longest_J185
        rw [if_pos (show nI 0 = 0 from rfl)]
        exact hmax f wz hz hlt
      · rcases nmax_at (f := f) (n := D.1) with h | ⟨s, g1, g2⟩
        · omega
        · have := hlt s g1; omega
      · cases k with
        | zero => exact Nat.zero_le _
        | succ k =>
          obtain ⟨p, p1, p2⟩ := hk
          have h3 := fix_bound (fun s hs hw => (hI.2.1 s hs hw).1) hfix (k + 1) (p 0) ⟨p, rfl, p1, p2⟩
          have h4 := nmax_ge (f := f) (p1 0 (by omega)).1
          omega
      · rcases nmax_at (f := f) (n := D.1) with h | ⟨s, g1, g2⟩
        · exact Or.inl h
        · cases hws : w s
          · left; rw [← g2]; exact hI.1 s g1 hws
          · right; rw [← g2]; exact chF_pth (hI.2.1 s g1 hws).2
    intro d
    induction d with
    | zero =>
      intro r n mo f wz hr hn hI hL hz hmo hfix
      obtain ⟨n, rfl⟩ : ∃ m, n = m + 1 := ⟨n - 1, by omega⟩
      rw [u_X7_longest_L64]
      cases mo
      · rw [if_pos (show nI (b2n false) = 0 from rfl)]
        exact fin r f wz (by omega) hI hz (hfix rfl)
      · rw [if_neg (show ¬ nI (b2n true) = 0 by decide), hzf, if_pos (nI_lt (by omega) (by omega))]
        refine ⟨-1, wz, ?_, Or.inl ⟨rfl, ?_⟩⟩
        · unfold m_X7_longest_J185
          rw [if_neg (show ¬ nI (b2n true) = 0 by decide)]
        · rcases hmo rfl with h | h
          · omega
          · rw [show D.1 + 2 = r + 1 by omega]; exact h
    | succ d ih =>
      intro r n mo f wz hr hn hI hL hz hmo hfix
      obtain ⟨n, rfl⟩ : ∃ m, n = m + 1 := ⟨n - 1, by omega⟩
      rw [u_X7_longest_L64]
      cases mo
      · rw [if_pos (show nI (b2n false) = 0 from rfl)]
        exact fin r f wz (by omega) hI hz (hfix rfl)
      · rw [if_neg (show ¬ nI (b2n true) = 0 by decide), hzf, if_neg (nI_nlt (by omega) (by omega)), nI_1]
        obtain ⟨mo2, f2, wz2, g1, g2, g3, g4, g5, g6⟩ := pq_round hF hE hfd hnx (st := st) hld (q1 := 0) (q2 := nI (X 8 0)) (q3 := nI (X 8 1)) (q4 := q4) (q5 := q5) (q6 := q6) (q7 := nI 1) (q10 := q10) (q11 := q11) (k64 := m_X7_longest_L64 F st ld n) (x3 := nI (r + 1)) (r := r) (by omega) hI hL hz
        rw [hz0] at g1
        rw [g1]
        exact ih (r + 1) n mo2 f2 wz2 (by omega) (by omega) g3 g4 g2 (fun h => Or.inr (g5 h)) g6
  obtain ⟨r', wz', g1, g2⟩ := rounds (D.1 + 1) 0 F true (fun i => b2n (w i)) a1 (by omega) (by omega) ⟨fun s _ h => by show b2n (w s) = 0; rw [h]; rfl, fun s hs h => by
    show 1 ≤ b2n (w s) ∧ chF _ _ _ _ s (b2n (w s))
    rw [h]
    exact ⟨Nat.le_refl _, fun _ => s, rfl, fun i _ => ⟨hs, h⟩, fun i hi => by have hi : i + 1 < 1 := hi; omega⟩, fun s _ => by have := b2n_le (w s); show b2n (w s) ≤ _; omega⟩ (fun s k hs hk hch => by
    show k ≤ b2n (w s)
    cases k with
    | zero => exact Nat.zero_le _
    | succ k =>
      obtain ⟨p, p0, p1, -⟩ := hch
      have := (p1 0 (by omega)).2
      rw [p0] at this
      rw [this]; show k + 1 ≤ 1; omega) h1 (fun _ => Or.inl rfl) (fun h => absurd h (by decide))
  exact ⟨r', wz', g1, g2⟩
