/-! chains of states in which a group waits -/
/-- a chain of k states, forwards -/
def pth (fd E : Nat) (w : Nat → Bool) (nx : Nat → Nat) (k : Nat) : Prop := ∃ p : Nat → Nat, (∀ i, i < k → p i < fd ∧ w (p i) = true) ∧ ∀ i, i + 1 < k → ∃ e, e < E ∧ nx (10 * p i + e) = p (i + 1)
def chF (fd E : Nat) (w : Nat → Bool) (nx : Nat → Nat) (s k : Nat) : Prop := ∃ p : Nat → Nat, p 0 = s ∧ (∀ i, i < k → p i < fd ∧ w (p i) = true) ∧ ∀ i, i + 1 < k → ∃ e, e < E ∧ nx (10 * p i + e) = p (i + 1)
theorem pth_mono {fd E : Nat} {w : Nat → Bool} {nx : Nat → Nat} {k j : Nat} (h : pth fd E w nx k) (hj : j ≤ k) : pth fd E w nx j := by
  obtain ⟨p, h1, h2⟩ := h
  exact ⟨p, fun i hi => h1 i (by omega), fun i hi => h2 i (by omega)⟩
theorem chF_mono {fd E : Nat} {w : Nat → Bool} {nx : Nat → Nat} {s k j : Nat} (h : chF fd E w nx s k) (hj : j ≤ k) : chF fd E w nx s j := by
  obtain ⟨p, h0, h1, h2⟩ := h
  exact ⟨p, h0, fun i hi => h1 i (by omega), fun i hi => h2 i (by omega)⟩
theorem chF_pth {fd E : Nat} {w : Nat → Bool} {nx : Nat → Nat} {s k : Nat} (h : chF fd E w nx s k) : pth fd E w nx k := by
  obtain ⟨p, -, h1, h2⟩ := h
  exact ⟨p, h1, h2⟩
theorem chF_cons {fd E : Nat} {w : Nat → Bool} {nx : Nat → Nat} {s e k : Nat} (hs : s < fd) (hw : w s = true) (he : e < E) (h : chF fd E w nx (nx (10 * s + e)) k) : chF fd E w nx s (k + 1) := by
  obtain ⟨p, h0, h1, h2⟩ := h
  refine ⟨fun i => match i with | 0 => s | i + 1 => p i, rfl, fun i hi => ?_, fun i hi => ?_⟩
  · match i, hi with
    | 0, _ => exact ⟨hs, hw⟩
    | i + 1, hi => exact h1 i (by omega)
  · match i, hi with
    | 0, hi => exact ⟨e, he, h0.symm⟩
    | i + 1, hi => exact h2 i (by omega)
theorem chF_tail {fd E : Nat} {w : Nat → Bool} {nx : Nat → Nat} {s k : Nat} (h : chF fd E w nx s (k + 2)) : ∃ e, e < E ∧ chF fd E w nx (nx (10 * s + e)) (k + 1) := by
  obtain ⟨p, h0, h1, h2⟩ := h
  obtain ⟨e, he, h3⟩ := h2 0 (by omega)
  rw [h0] at h3
  exact ⟨e, he, fun i => p (i + 1), h3.symm, fun i hi => h1 (i + 1) (by omega), fun i hi => h2 (i + 1) (by omega)⟩
/-- a group's longest wait as the law's reference has it -/
def lgR (fd E : Nat) (w : Nat → Bool) (nx : Nat → Nat) (r : Int32) : Prop := (r = -1 ∧ pth fd E w nx (fd + 2)) ∨ ∃ M, r = nI M ∧ M < 2 ^ 31 ∧ (∀ k, pth fd E w nx k → k ≤ M) ∧ (M = 0 ∨ pth fd E w nx M)
/-- .. and as the class has it -/
def lgC (fd E : Nat) (w : Nat → Bool) (nx : Nat → Nat) (r : Int32) : Prop := (r = -1 ∧ ∀ k, pth fd E w nx k) ∨ ∃ M, r = nI M ∧ M ≤ fd ∧ (∀ k, pth fd E w nx k → k ≤ M) ∧ (M = 0 ∨ pth fd E w nx M)
theorem lg_eq {fd E : Nat} {w : Nat → Bool} {nx : Nat → Nat} {a b : Int32} (ha : lgR fd E w nx a) (hb : lgC fd E w nx b) : a = b := by
  rcases ha with ⟨ha, ha2⟩ | ⟨M, ha, ha1, ha2, ha3⟩
  · rcases hb with ⟨hb, -⟩ | ⟨K, hb, hb1, hb2, hb3⟩
    · rw [ha, hb]
    · have := hb2 _ ha2; omega
  · rcases hb with ⟨hb, hb2⟩ | ⟨K, hb, hb1, hb2, hb3⟩
    · have := ha2 _ (hb2 (M + 1)); omega
    · have h1 : M ≤ K := by
        rcases ha3 with h | h
        · omega
        · exact hb2 _ h
      have h2 : K ≤ M := by
        rcases hb3 with h | h
        · omega
        · exact ha2 _ h
      rw [ha, hb, show M = K by omega]
theorem lgR_ge {fd E : Nat} {w : Nat → Bool} {nx : Nat → Nat} {a : Int32} (h : lgR fd E w nx a) : a = -1 ∨ ¬ a < 0 := by
  rcases h with ⟨h, -⟩ | ⟨M, h, h1, -⟩
  · exact Or.inl h
  · rw [h]; exact Or.inr (nI_pos h1)
/-- what the waits hold while they are made greater -/
def wI (fd E : Nat) (w : Nat → Bool) (nx : Nat → Nat) (c : Nat) (f : Nat → Nat) : Prop := (∀ s, s < fd → w s = false → f s = 0) ∧ (∀ s, s < fd → w s = true → 1 ≤ f s ∧ chF fd E w nx s (f s)) ∧ ∀ s, s < fd → f s ≤ 1 + c
def wL (fd E : Nat) (w : Nat → Bool) (nx : Nat → Nat) (r : Nat) (f : Nat → Nat) : Prop := ∀ s k, s < fd → k ≤ r → chF fd E w nx s k → k ≤ f s
theorem pq_wait {X : Nat → Nat → Nat} (hX : xG X) {F : Nat} {D : BD} {zQ : Int32 × Int32 × Int32 × Int32 × Int32 × Int32 × Int32 × Int32 × Int32 × Int32 × Int32} {st cf cb : Nat → Int32} (hd : qD D st cf cb) {i g : Nat} (hi : i < D.1) (hfd : D.1 ≤ 400) (hg : g < 6) : m_X7_waitsIn F (nI i) (nI g) zQ st = some (nI (b2n ((D.2.1 i 7).testBit g))) := by
  unfold m_X7_waitsIn
  rw [show (14 : Int32) * nI i = nI (14 * i) from pk_mul 14 i, show nI (14 * i) + 7 = nI (14 * i + 7) from nI_add _ 7, pn_ck (by omega) (by omega), nI_clamp (by omega), hd.1 i hi 7 (by omega)]
  have e := pn_b1 (k := D.2.1 i 7) (j := g) (by omega)
  have e : ((nI (D.2.1 i 7) >>> (nI g &&& 31)) &&& 1 = 1) = ((D.2.1 i 7).testBit g = true) := e
  simp only [e]
  cases (D.2.1 i 7).testBit g <;> rfl
/-- one round over all states -/
theorem pq_round {F : Nat} (hF : 2000 ≤ F) {fd E : Nat} (hE : E ≤ 10) (hfd : fd ≤ 400) {w : Nat → Bool} {nx : Nat → Nat} (hnx : ∀ s e, s < fd → e < E → nx (10 * s + e) < fd) {st ld : Nat → Int32} (hld : ∀ s e, s < fd → e < E → ld (10 * s + e) = nI (nx (10 * s + e))) {q1 q2 q3 q4 q5 q6 q7 q10 q11 : Int32} {k64 : (Int32) → (Int32) → (Int32 × Int32 × Int32 × Int32 × Int32 × Int32 × Int32 × Int32 × Int32 × Int32 × Int32) → (Nat → Int32) → Option (Int32 × ((Int32 × Int32 × Int32 × Int32 × Int32 × Int32 × Int32 × Int32 × Int32 × Int32 × Int32) × (Nat → Int32)))} {x3 : Int32} {r : Nat} (hr : r ≤ 402) {f0 : Nat → Nat} {wz : Nat → Int32} (h0 : wI fd E w nx (4000 * r) f0) (hL : wL fd E w nx (r + 1) f0) (hwz : ∀ i, i < fd → wz i = nI (f0 i)) :
    ∃ (mo : Bool) (f : Nat → Nat) (wz' : Nat → Int32), m_X7_longest_L84 F st ld k64 F 0 x3 0 (q1, q2, q3, q4, q5, q6, q7, nI fd, nI E, q10, q11) wz = k64 (nI (b2n mo)) x3 (q1, q2, q3, q4, q5, q6, q7, nI fd, nI E, q10, q11) wz' ∧ (∀ i, i < fd → wz' i = nI (f i)) ∧ wI fd E w nx (4000 * (r + 1)) f ∧ wL fd E w nx (r + 2) f ∧ (mo = true → pth fd E w nx (r + 2)) ∧ (mo = false → ∀ s e, s < fd → w s = true → e < E → f (nx (10 * s + e)) + 1 ≤ f s) := by
  -- what holds at state s0 with e0 events done
  have hInv : ∃ P : Nat → Nat → Bool → (Nat → Nat) → Prop, P = (fun s0 e0 mo f => wI fd E w nx (4000 * r + 10 * s0 + e0) f ∧ (∀ s, s < fd → f0 s ≤ f s) ∧ (∀ s, s < s0 → s < fd → chF fd E w nx s (r + 2) → r + 2 ≤ f s) ∧ (∀ e, e < e0 → chF fd E w nx (nx (10 * s0 + e)) (r + 1) → w s0 = true → r + 2 ≤ f s0) ∧ (mo = true → pth fd E w nx (r + 2)) ∧ (mo = false → (∀ s, s < fd → f s = f0 s) ∧ (∀ s e, s < s0 → s < fd → w s = true → e < E → f (nx (10 * s + e)) + 1 ≤ f s) ∧ (∀ e, e < e0 → w s0 = true → f (nx (10 * s0 + e)) + 1 ≤ f s0))) := ⟨_, rfl⟩
  obtain ⟨P, hP⟩ := hInv
  -- one state
  have inner : ∀ (s0 : Nat), s0 < fd → ∀ (d e0 n : Nat) (mo : Bool) (f : Nat → Nat) (wz : Nat → Int32) (k84 : (Int32) → (Int32) → (Int32) → (Int32 × Int32 × Int32 × Int32 × Int32 × Int32 × Int32 × Int32 × Int32 × Int32 × Int32) → (Nat → Int32) → Option (Int32 × ((Int32 × Int32 × Int32 × Int32 × Int32 × Int32 × Int32 × Int32 × Int32 × Int32 × Int32) × (Nat → Int32)))), e0 + d = E → d < n → P s0 e0 mo f → (∀ i, i < fd → wz i = nI (f i)) →
      ∃ (mo' : Bool) (f' : Nat → Nat) (wz' : Nat → Int32), m_X7_longest_L96 F st ld k64 k84 n (nI (b2n mo)) x3 (nI s0) (nI e0) (q1, q2, q3, q4, q5, q6, q7, nI fd, nI E, q10, q11) wz = k84 (nI (b2n mo')) x3 (nI (s0 + 1)) (q1, q2, q3, q4, q5, q6, q7, nI fd, nI E, q10, q11) wz' ∧ (∀ i, i < fd → wz' i = nI (f' i)) ∧ P (s0 + 1) 0 mo' f' := by
    intro s0 hs0 d
    induction d with
    | zero =>
      intro e0 n mo f wz k84 he hn hPf hz
      obtain ⟨n, rfl⟩ : ∃ m, n = m + 1 := ⟨n - 1, by omega⟩
      refine ⟨mo, f, wz, ?_, hz, ?_⟩
      · rw [u_X7_longest_L96, if_pos (show nI E ≤ nI e0 from nI_le (by omega) (by omega))]
        unfold m_X7_longest_J176; rw [nI_1]
      · rw [hP] at hPf ⊢
        obtain ⟨⟨a1, a2, a3⟩, b, c, dd, ee, ff⟩ := hPf
        refine ⟨⟨a1, a2, fun s hs => ?_⟩, b, fun s h1 h2 h3 => ?_, fun e h => by omega, ee, fun h => ⟨(ff h).1, fun s e h1 h2 h3 h4 => ?_, fun e h => by omega⟩⟩
        · have := a3 s hs; omega
        · by_cases hh : s = s0
          · subst hh
            obtain ⟨e, g1, g2⟩ := chF_tail h3
            have hw : w s = true := by obtain ⟨p, p0, p1, -⟩ := h3; have := (p1 0 (by omega)).2; rw [p0] at this; exact this
            exact dd e (by omega) g2 hw
          · exact c s (by omega) h2 h3
        · by_cases hh : s = s0
          · subst hh; exact (ff h).2.2 e (by omega) h3
          · exact (ff h).2.1 s e (by omega) h2 h3 h4
    | succ d ih =>
      intro e0 n mo f wz k84 he hn hPf hz
      obtain ⟨n, rfl⟩ : ∃ m, n = m + 1 := ⟨n - 1, by omega⟩
      have hPf2 := hPf
      rw [hP] at hPf2
      obtain ⟨⟨a1, a2, a3⟩, b, c, dd, ee, ff⟩ := hPf2
      have a3s := a3 s0 hs0
      rw [u_X7_longest_L96, if_neg (show ¬ nI E ≤ nI e0 from nI_ge (by omega) (by omega)), pn_ck (by omega) (by omega), nI_clamp (by omega), hz s0 hs0]
      cases hw : w s0
      · have hz0 := a1 s0 hs0 hw
        refine ⟨mo, f, wz, ?_, hz, ?_⟩
        · rw [hz0, if_pos (show nI 0 ≤ 0 by decide)]
          unfold m_X7_longest_J176; rw [nI_1]
        · rw [hP]
          refine ⟨⟨a1, a2, fun s hs => ?_⟩, b, fun s h1 h2 h3 => ?_, fun e h => by omega, ee, fun h => ⟨(ff h).1, fun s e h1 h2 h3 h4 => ?_, fun e h => by omega⟩⟩
          · have := a3 s hs; omega
          · by_cases hh : s = s0
            · subst hh
              obtain ⟨p, p0, p1, -⟩ := h3
              have := (p1 0 (by omega)).2
              rw [p0, hw] at this; exact absurd this (by decide)
            · exact c s (by omega) h2 h3
          · by_cases hh : s = s0
            · subst hh; rw [hw] at h3; exact absurd h3 (by decide)
            · exact (ff h).2.1 s e (by omega) h2 h3 h4
      · obtain ⟨p1, p2⟩ := a2 s0 hs0 hw
        have ht := hnx s0 e0 hs0 (by omega)
        have a3t := a3 _ ht
        rw [if_neg (nI_nle (by omega) (by omega)), show (10 : Int32) * nI s0 = nI (10 * s0) from pk_mul 10 s0, nI_add, pn_ck (by omega) (by omega), nI_clamp (by omega), hld s0 e0 hs0 (by omega), pn_ck (by omega) (by omega), pn_ck (by omega) (by omega), nI_clamp (by omega), hz _ ht, nI_1]
        by_cases hlt : f s0 < f (nx (10 * s0 + e0)) + 1
        · rw [if_pos (nI_lt hlt (by omega)), pn_ck (by omega) (by omega), pn_ck (by omega) (by omega)]
          unfold m_X7_longest_J170
          rw [nI_1]
          have hwt : w (nx (10 * s0 + e0)) = true := by
            cases h : w (nx (10 * s0 + e0))
            · have := a1 _ ht h; omega
            · rfl
          have hch : chF fd E w nx s0 (f (nx (10 * s0 + e0)) + 1) := chF_cons hs0 hw (by omega) (a2 _ ht hwt).2
          have hbig : r + 2 ≤ f (nx (10 * s0 + e0)) + 1 := by
            by_cases hb2 : r + 2 ≤ f (nx (10 * s0 + e0)) + 1
            · exact hb2
            · have h1 := hL s0 _ hs0 (show f (nx (10 * s0 + e0)) + 1 ≤ r + 1 by omega) hch
              have h2 := b s0 hs0
              omega
          refine ih (e0 + 1) n true (sU f s0 (f (nx (10 * s0 + e0)) + 1)) _ k84 (by omega) (by omega) ?_ (fun i hi => ?_)
          · rw [hP]
            have hU : ∀ s, s ≠ s0 → sU f s0 (f (nx (10 * s0 + e0)) + 1) s = f s := fun s hs => if_neg hs
            have hU0 : sU f s0 (f (nx (10 * s0 + e0)) + 1) s0 = f (nx (10 * s0 + e0)) + 1 := if_pos rfl
            refine ⟨⟨fun s hs h => ?_, fun s hs h => ?_, fun s hs => ?_⟩, fun s hs => ?_, fun s h1 h2 h3 => ?_, fun e h1 h2 h3 => ?_, fun _ => ?_, fun h => absurd h (by decide)⟩
            · rw [hU s (fun hh => by rw [hh, hw] at h; exact absurd h (by decide))]; exact a1 s hs h
            · by_cases hh : s = s0
              · rw [hh, hU0]; exact ⟨by omega, hch⟩
              · rw [hU s hh]; exact a2 s hs h
            · by_cases hh : s = s0
              · rw [hh, hU0]; omega
              · rw [hU s hh]; have := a3 s hs; omega
            · by_cases hh : s = s0
              · rw [hh, hU0]; have := b s0 hs0; omega
              · rw [hU s hh]; exact b s hs
            · rw [hU s (by omega)]; exact c s h1 h2 h3
            · rw [hU0]; exact hbig
            · exact chF_pth (chF_mono hch hbig)
          · unfold upd sU
            by_cases hh : i = s0
            · rw [if_pos hh, if_pos hh]
            · rw [if_neg hh, if_neg hh]; exact hz i hi
        · rw [if_neg (nI_nlt (by omega) (by omega))]
          unfold m_X7_longest_J170
          rw [nI_1]
          refine ih (e0 + 1) n mo f wz k84 (by omega) (by omega) ?_ hz
          rw [hP]
          refine ⟨⟨a1, a2, fun s hs => by have := a3 s hs; omega⟩, b, c, fun e h1 h2 h3 => ?_, ee, fun h => ⟨(ff h).1, (ff h).2.1, fun e h1 h2 => ?_⟩⟩
          · by_cases hh : e = e0
            · subst hh
              have h4 := hL _ (r + 1) ht (Nat.le_refl _) h2
              have h5 := b _ ht
              omega
            · exact dd e (by omega) h2 h3
          · by_cases hh : e = e0
            · subst hh; omega
            · exact (ff h).2.2 e (by omega) h2
  have outer : ∀ (d s0 n : Nat) (mo : Bool) (f : Nat → Nat) (wz : Nat → Int32), s0 + d = fd → d < n → P s0 0 mo f → (∀ i, i < fd → wz i = nI (f i)) →
      ∃ (mo' : Bool) (f' : Nat → Nat) (wz' : Nat → Int32), m_X7_longest_L84 F st ld k64 n (nI (b2n mo)) x3 (nI s0) (q1, q2, q3, q4, q5, q6, q7, nI fd, nI E, q10, q11) wz = k64 (nI (b2n mo')) x3 (q1, q2, q3, q4, q5, q6, q7, nI fd, nI E, q10, q11) wz' ∧ (∀ i, i < fd → wz' i = nI (f' i)) ∧ P fd 0 mo' f' := by
    intro d
    induction d with
    | zero =>
      intro s0 n mo f wz hs hn hPf hz
      obtain ⟨n, rfl⟩ : ∃ m, n = m + 1 := ⟨n - 1, by omega⟩
      have hs : s0 = fd := by omega
      subst hs
      refine ⟨mo, f, wz, ?_, hz, hPf⟩
      rw [u_X7_longest_L84, if_pos (show nI s0 ≤ nI s0 from nI_le (Nat.le_refl _) (by omega))]
    | succ d ih =>
      intro s0 n mo f wz hs hn hPf hz
      obtain ⟨n, rfl⟩ : ∃ m, n = m + 1 := ⟨n - 1, by omega⟩
      rw [u_X7_longest_L84, if_neg (show ¬ nI fd ≤ nI s0 from nI_ge (by omega) (by omega))]
      obtain ⟨mo1, f1, wz1, e1, g1, g2⟩ := inner s0 (by omega) E 0 F mo f wz (m_X7_longest_L84 F st ld k64 n) (by omega) (by omega) hPf hz
      obtain ⟨mo2, f2, wz2, e2, g3, g4⟩ := ih (s0 + 1) n mo1 f1 wz1 (by omega) (by omega) g2 g1
      exact ⟨mo2, f2, wz2, Eq.trans e1 e2, g3, g4⟩
  obtain ⟨mo, f, wz', e1, g1, g2⟩ := outer fd 0 F false f0 wz (by omega) (by omega) (by
    rw [hP]
    exact ⟨h0, fun s _ => Nat.le_refl _, fun s h => by omega, fun e h => by omega, fun h => absurd h (by decide), fun _ => ⟨fun s _ => rfl, fun s e h => by omega, fun e h => by omega⟩⟩) hwz
  rw [hP] at g2
  obtain ⟨⟨a1, a2, a3⟩, b, c, dd, ee, ff⟩ := g2
  refine ⟨mo, f, wz', e1, g1, ⟨a1, a2, fun s hs => by have := a3 s hs; omega⟩, fun s k hs hk hch => ?_, ee, fun h s e h1 h2 h3 => (ff h).2.1 s e h1 h1 h2 h3⟩
  by_cases hh : k = r + 2
  · rw [hh] at hch ⊢; exact c s hs hs hch
  · exact Nat.le_trans (hL s k hs (by omega) hch) (b s hs)
