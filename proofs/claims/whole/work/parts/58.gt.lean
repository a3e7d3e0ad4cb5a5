/-! the class's longest wait -/
def bcnt (c : Nat → Bool) : Nat → Nat
  | 0 => 0
  | n + 1 => bcnt c n + (if c n then 1 else 0)
theorem bcnt_le (c : Nat → Bool) : ∀ n, bcnt c n ≤ n := by
  intro n
  induction n with
  | zero => exact Nat.le_refl _
  | succ n ih => simp only [bcnt]; split <;> omega
theorem bcnt_congr {c d : Nat → Bool} : ∀ {n : Nat}, (∀ k, k < n → c k = d k) → bcnt c n = bcnt d n := by
  intro n
  induction n with
  | zero => intro _; rfl
  | succ n ih => intro h; simp only [bcnt]; rw [ih (fun k hk => h k (by omega)), h n (by omega)]
theorem bcnt_skip {c : Nat → Bool} {a : Nat} : ∀ {b : Nat}, a ≤ b → (∀ j, a ≤ j → j < b → c j = false) → bcnt c b = bcnt c a := by
  intro b
  induction b with
  | zero => intro h _; have : a = 0 := by omega
            rw [this]
  | succ b ih =>
    intro h h2
    by_cases hh : a = b + 1
    · rw [hh]
    · simp only [bcnt]
      rw [ih (by omega) (fun j h3 h4 => h2 j h3 (by omega)), h2 b (by omega) (by omega)]; rfl
theorem bcnt_off {c d : Nat → Bool} {j : Nat} (hd : d j = false) (hc : c j = true) (hq : ∀ i, i ≠ j → d i = c i) : ∀ {n : Nat}, j < n → bcnt d n + 1 = bcnt c n := by
  intro n
  induction n with
  | zero => intro h; omega
  | succ n ih =>
    intro h
    simp only [bcnt]
    by_cases hh : j = n
    · subst hh
      rw [hd, hc, bcnt_congr (d := c) (fun k hk => hq k (by omega))]; rfl
    · rw [hq n (by omega)]
      have := ih (by omega)
      omega
theorem bcnt_mono {c d : Nat → Bool} : ∀ {n : Nat}, (∀ k, k < n → c k = true → d k = true) → bcnt c n ≤ bcnt d n := by
  intro n
  induction n with
  | zero => intro _; exact Nat.le_refl _
  | succ n ih =>
    intro h
    have h1 := ih (fun k hk => h k (by omega))
    simp only [bcnt]
    cases hc : c n
    · simp only [Bool.false_eq_true, if_false]; split <;> omega
    · rw [h n (by omega) hc]; omega
theorem bcnt_lt {c d : Nat → Bool} {n j : Nat} (h : ∀ k, k < n → c k = true → d k = true) (hj : j < n) (hc : c j = false) (hd : d j = true) : bcnt c n < bcnt d n := by
  have h1 : bcnt (fun i => if i = j then false else d i) n + 1 = bcnt d n := bcnt_off (j := j) (if_pos rfl) hd (fun i hi => if_neg hi) hj
  have h2 : bcnt c n ≤ bcnt (fun i => if i = j then false else d i) n := bcnt_mono (fun k hk hck => by
    show (if k = j then false else d k) = true
    rw [if_neg (fun hh => by rw [hh, hc] at hck; exact absurd hck (by decide))]
    exact h k hk hck)
  omega
theorem bcnt_pos {c : Nat → Bool} : ∀ {n : Nat}, bcnt c n ≠ 0 → ∃ j, j < n ∧ c j = true := by
  intro n
  induction n with
  | zero => intro h; exact absurd rfl h
  | succ n ih =>
    intro h
    cases hc : c n
    · simp only [bcnt, hc] at h
      obtain ⟨j, h1, h2⟩ := ih (by simpa using h)
      exact ⟨j, by omega, h2⟩
    · exact ⟨n, by omega, hc⟩
/-- a chain of k states that ends at t, backwards -/
def chE (fd E : Nat) (w : Nat → Bool) (nx : Nat → Nat) (t k : Nat) : Prop := ∃ p : Nat → Nat, p 0 = t ∧ (∀ i, i < k → p i < fd ∧ w (p i) = true) ∧ ∀ i, i + 1 < k → ∃ e, e < E ∧ nx (10 * p (i + 1) + e) = p i
theorem chE_pth {fd E : Nat} {w : Nat → Bool} {nx : Nat → Nat} {t k : Nat} (h : chE fd E w nx t k) : pth fd E w nx k := by
  obtain ⟨p, h0, h1, h2⟩ := h
  refine ⟨fun i => p (k - 1 - i), fun i hi => h1 _ (by omega), fun i hi => ?_⟩
  obtain ⟨e, he, h3⟩ := h2 (k - 1 - (i + 1)) (by omega)
  rw [show k - 1 - (i + 1) + 1 = k - 1 - i by omega] at h3
  exact ⟨e, he, h3⟩
theorem chE_cons {fd E : Nat} {w : Nat → Bool} {nx : Nat → Nat} {t s e k : Nat} (ht : t < fd) (hw : w t = true) (he : e < E) (hn : nx (10 * s + e) = t) (h : chE fd E w nx s k) : chE fd E w nx t (k + 1) := by
  obtain ⟨p, h0, h1, h2⟩ := h
  refine ⟨fun i => match i with | 0 => t | i + 1 => p i, rfl, fun i hi => ?_, fun i hi => ?_⟩
  · match i, hi with
    | 0, _ => exact ⟨ht, hw⟩
    | i + 1, hi => exact h1 i (by omega)
  · match i, hi with
    | 0, hi => exact ⟨e, he, by show nx (10 * p 0 + e) = t; rw [h0]; exact hn⟩
    | i + 1, hi => exact h2 i (by omega)
def cE (E : Nat) (w : Nat → Bool) (nx : Nat → Nat) (t j : Nat) : Bool := w (j / 10) && decide (j % 10 < E) && (nx j == t)
theorem cE_at {E : Nat} {w : Nat → Bool} {nx : Nat → Nat} {t s e : Nat} (hE : E ≤ 10) (he : e < E) : cE E w nx t (10 * s + e) = (w s && (nx (10 * s + e) == t)) := by
  unfold cE
  rw [show (10 * s + e) / 10 = s by omega, show (10 * s + e) % 10 = e by omega, decide_eq_true he, Bool.and_true]
theorem cE_no {E : Nat} {w : Nat → Bool} {nx : Nat → Nat} {t j : Nat} (h : w (j / 10) = false ∨ E ≤ j % 10) : cE E w nx t j = false := by
  unfold cE
  rcases h with h | h
  · rw [h]; rfl
  · rw [decide_eq_false (by omega), Bool.and_false]; rfl
theorem pc_count {F : Nat} (hF : 2000 ≤ F) {fd E g : Nat} (hE : E ≤ 10) (hfd : fd ≤ 400) {w : Nat → Bool} {nx : Nat → Nat} (hnx : ∀ s e, s < fd → e < E → nx (10 * s + e) < fd) {nz : Nat → Int32} (hnz : ∀ s e, s < fd → e < E → nz (10 * s + e) = nI (nx (10 * s + e))) {ks : Nat → Int64} (hW : ∀ i, i < fd → m_X2_waitsIn F (ks i) (nI g) = some (nI (b2n (w i)))) (uz dz : Nat → Int32) :
    ∃ uz' dz', m_X5_countEdges F (nI fd) (nI E) (nI g) nz uz dz ks = some (nI (bcnt w fd), (uz', dz')) ∧ (∀ t, t < fd → uz' t = nI (bcnt (cE E w nx t) (10 * fd))) ∧ ∀ t, t < fd → dz' t = nI 1 := by
  unfold m_X5_countEdges
  obtain ⟨u0, e1, h1, -⟩ := pj_fill (F := F) (n := 400) (by omega) (by omega) 0 uz
  obtain ⟨d0, e2, h2, -⟩ := pj_fill (F := F) (n := 400) (by omega) (by omega) 1 dz
  rw [e1, pn_bd, e2, pn_bd]
  have inner : ∀ (s : Nat), s < fd → w s = true → ∀ (d e n : Nat) (k22 : (Int32) → (Int32) → (Int32) → (Int32) → (Int32) → (Nat → Int32) → (Nat → Int32) → Option (Int32 × ((Nat → Int32) × (Nat → Int32)))) (x5 : Int32) (u : Nat → Int32), e + d = E → d < n → (∀ t, t < fd → u t = nI (bcnt (cE E w nx t) (10 * s + e))) → ∃ u', m_X5_countEdges_L46 F nz ks k22 n (nI fd) (nI E) (nI g) x5 (nI s) (nI e) u d0 = k22 (nI fd) (nI E) (nI g) x5 (nI (s + 1)) u' d0 ∧ ∀ t, t < fd → u' t = nI (bcnt (cE E w nx t) (10 * (s + 1))) := by
    intro s hs hws d
    induction d with
    | zero =>
      intro e n k22 x5 u he hn hu
      obtain ⟨n, rfl⟩ : ∃ m, n = m + 1 := ⟨n - 1, by omega⟩
      refine ⟨u, ?_, fun t ht => ?_⟩
      · rw [u_X5_countEdges_L46, if_pos (nI_le (by omega) (by omega))]
        unfold m_X5_countEdges_J80; rw [nI_1]
      · rw [hu t ht, bcnt_skip (a := 10 * s + e) (b := 10 * (s + 1)) (by omega) (fun j h3 h4 => cE_no (Or.inr (by omega)))]
    | succ d ih =>
      intro e n k22 x5 u he hn hu
      obtain ⟨n, rfl⟩ : ∃ m, n = m + 1 := ⟨n - 1, by omega⟩
      have ht0 := hnx s e hs (by omega)
      rw [u_X5_countEdges_L46, if_neg (nI_ge (by omega) (by omega)), show nI s * 10 = nI (s * 10) from pk_mul s 10, nI_add, show s * 10 + e = 10 * s + e by omega, pn_ck (by omega) (by omega), nI_clamp (by omega), hnz s e hs (by omega), pn_ck (by omega) (by omega), pn_ck (by omega) (by omega), nI_clamp (by omega), nI_1]
      refine ih (e + 1) n k22 x5 _ (by omega) (by omega) (fun t ht => ?_)
      rw [show 10 * s + (e + 1) = 10 * s + e + 1 by omega]
      simp only [bcnt, cE_at hE (show e < E by omega), hws, Bool.true_and]
      unfold upd
      by_cases hh : t = nx (10 * s + e)
      · rw [if_pos hh, ← hh, hu t ht, nI_1]; simp
      · rw [if_neg hh, hu t ht]
        have : (nx (10 * s + e) == t) = false := by simp; exact fun h => hh h.symm
        rw [this]; rfl
  have outer : ∀ (d s n : Nat) (u : Nat → Int32), s + d = fd → d < n → (∀ t, t < fd → u t = nI (bcnt (cE E w nx t) (10 * s))) → ∃ u', m_X5_countEdges_L22 F nz ks n (nI fd) (nI E) (nI g) (nI (bcnt w s)) (nI s) u d0 = some (nI (bcnt w fd), (u', d0)) ∧ ∀ t, t < fd → u' t = nI (bcnt (cE E w nx t) (10 * fd)) := by
    intro d
    induction d with
    | zero =>
      intro s n u hs hn hu
      obtain ⟨n, rfl⟩ : ∃ m, n = m + 1 := ⟨n - 1, by omega⟩
      have hs : s = fd := by omega
      subst hs
      exact ⟨u, by rw [u_X5_countEdges_L22, if_pos (nI_le (Nat.le_refl _) (by omega))], hu⟩
    | succ d ih =>
      intro s n u hs hn hu
      obtain ⟨n, rfl⟩ : ∃ m, n = m + 1 := ⟨n - 1, by omega⟩
      rw [u_X5_countEdges_L22, if_neg (nI_ge (by omega) (by omega)), pn_ck (by omega) (by omega), nI_clamp (by omega), hW s (by omega), pn_bd]
      cases hws : w s
      · rw [if_pos (show nI (b2n false) = 0 from rfl)]
        unfold m_X5_countEdges_J80
        rw [nI_1]
        have hb : bcnt w s = bcnt w (s + 1) := by simp only [bcnt, hws]; rfl
        rw [hb]
        refine ih (s + 1) n u (by omega) (by omega) (fun t ht => ?_)
        rw [hu t ht, bcnt_skip (a := 10 * s) (b := 10 * (s + 1)) (by omega) (fun j h3 h4 => cE_no (Or.inl (by rw [show j / 10 = s by omega]; exact hws)))]
      · rw [if_neg (show ¬ nI (b2n true) = 0 by decide), nI_1]
        obtain ⟨u1, g1, g2⟩ := inner s (by omega) hws E 0 F (m_X5_countEdges_L22 F nz ks n) (nI (bcnt w s + 1)) u (by omega) (by omega) hu
        have hb : bcnt w s + 1 = bcnt w (s + 1) := by simp only [bcnt, hws, if_true]
        obtain ⟨u2, g3, g4⟩ := ih (s + 1) n u1 (by omega) (by omega) g2
        rw [hb] at g1 ⊢
        exact ⟨u2, Eq.trans g1 g3, g4⟩
  obtain ⟨u', g1, g2⟩ := outer fd 0 F u0 (by omega) (by omega) (fun t ht => h1 t (by omega))
  exact ⟨u', d0, g1, g2, fun t ht => h2 t (by omega)⟩
/-- what holds while the states are followed: k of m queued ones are followed, of the next one e events -/
def kI (fd E : Nat) (w : Nat → Bool) (nx : Nat → Nat) (k e m : Nat) (q u d : Nat → Nat) (dn : Nat → Bool) : Prop :=
  (∀ i, i < m → q i < fd ∧ w (q i) = true ∧ u (q i) = 0) ∧ (∀ i j, i < m → j < m → q i = q j → i = j) ∧ (∀ t, t < fd → w t = true → u t = 0 → ∃ i, i < m ∧ q i = t) ∧ m = bcnt (fun t => w t && decide (u t = 0)) fd ∧
  (∀ t, t < fd → w t = true → u t = bcnt (fun j => cE E w nx t j && !dn j) (10 * fd)) ∧ (∀ t, t < fd → w t = true → 1 ≤ d t ∧ chE fd E w nx t (d t) ∧ d t ≤ k + 1 + (if e = 0 then 0 else 1)) ∧ (∀ i, i < m → d (q i) ≤ i + 1) ∧
  (∀ j, j < 10 * fd → j % 10 < E → dn j = true → w (nx j) = true → d (j / 10) + 1 ≤ d (nx j)) ∧ (∀ j, dn j = true → (∃ i, i < k ∧ q i = j / 10) ∨ (j / 10 = q k ∧ j % 10 < e)) ∧ (∀ i e', i < k → e' < E → dn (10 * q i + e') = true) ∧ (∀ e', e' < e → dn (10 * q k + e') = true)
