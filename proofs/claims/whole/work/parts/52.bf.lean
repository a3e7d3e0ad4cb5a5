/-! all states, found one after another -/
def eq14 (s t : Nat → Nat) : Bool := !nex (fun i => s i != t i) 14
theorem eq14_iff {s t : Nat → Nat} : eq14 s t = true ↔ ∀ i, i < 14 → s i = t i := by
  unfold eq14
  rw [Bool.not_eq_true']
  constructor
  · intro h i hi
    by_cases hx : s i = t i
    · exact hx
    · have := (nex_true (c := fun i => s i != t i) (n := 14)).mpr ⟨i, hi, by simp [hx]⟩
      rw [h] at this
      exact absurd this (by decide)
  · intro h
    exact nex_none (fun k hk => by simp [h k hk])
abbrev BD := Nat × (Nat → Nat → Nat) × (Nat → Nat) × (Nat → Nat) × (Nat → Nat)
def fIdx (ST : Nat → Nat → Nat) (fd : Nat) (t : Nat → Nat) : Nat := nby (fun i => eq14 (ST i) t) fd 0
theorem nby_spec {c : Nat → Bool} : ∀ (d b : Nat), (nby c d b < b + d ∧ c (nby c d b) = true ∧ b ≤ nby c d b ∧ ∀ j, b ≤ j → j < nby c d b → c j = false) ∨ (nby c d b = b + d ∧ ∀ j, b ≤ j → j < b + d → c j = false) := by
  intro d
  induction d with
  | zero => intro b; exact Or.inr ⟨rfl, fun j h1 h2 => by omega⟩
  | succ d ih =>
    intro b
    cases hc : c b
    · have e : nby c (d + 1) b = nby c d (b + 1) := by simp only [nby, hc]; rfl
      rw [e]
      rcases ih (b + 1) with ⟨h1, h2, h3, h4⟩ | ⟨h1, h2⟩
      · refine Or.inl ⟨by omega, h2, by omega, fun j g1 g2 => ?_⟩
        by_cases h : j = b
        · rw [h]; exact hc
        · exact h4 j (by omega) g2
      · refine Or.inr ⟨by omega, fun j g1 g2 => ?_⟩
        by_cases h : j = b
        · rw [h]; exact hc
        · exact h2 j (by omega) (by omega)
    · have e : nby c (d + 1) b = b := by simp only [nby, hc, if_true]
      rw [e]
      exact Or.inl ⟨by omega, hc, by omega, fun j g1 g2 => by omega⟩
theorem fIdx_spec (ST : Nat → Nat → Nat) (fd : Nat) (t : Nat → Nat) : (fIdx ST fd t < fd ∧ (∀ i, i < 14 → ST (fIdx ST fd t) i = t i) ∧ ∀ j, j < fIdx ST fd t → eq14 (ST j) t = false) ∨ (fIdx ST fd t = fd ∧ ∀ j, j < fd → eq14 (ST j) t = false) := by
  unfold fIdx
  rcases nby_spec (c := fun i => eq14 (ST i) t) fd 0 with ⟨h1, h2, h3, h4⟩ | ⟨h1, h2⟩
  · exact Or.inl ⟨by omega, eq14_iff.mp h2, fun j hj => h4 j (by omega) hj⟩
  · exact Or.inr ⟨by omega, fun j hj => h2 j (by omega) (by omega)⟩
def bNew (X : Nat → Nat → Nat) (D : BD) (s e : Nat) : BD := (D.1 + 1, (fun i => if i = D.1 then sGo X e (D.2.1 s) else D.2.1 i), sU D.2.2.1 D.1 s, sU D.2.2.2.1 D.1 e, sU D.2.2.2.2 (10 * s + e) D.1)
def bOld (D : BD) (s e j : Nat) : BD := (D.1, D.2.1, D.2.2.1, D.2.2.2.1, sU D.2.2.2.2 (10 * s + e) j)
def bRow (X : Nat → Nat → Nat) (lim s : Nat) : Nat → Nat → BD → Nat × Nat × BD
  | 0, e, D => (1, e, D)
  | d + 1, e, D => if sFault X e (D.2.1 s) = 0 then (if fIdx D.2.1 D.1 (sGo X e (D.2.1 s)) < D.1 then bRow X lim s d (e + 1) (bOld D s e (fIdx D.2.1 D.1 (sGo X e (D.2.1 s)))) else if D.1 = lim then (2, e, D) else bRow X lim s d (e + 1) (bNew X D s e)) else (0, e, D)
def xE (X : Nat → Nat → Nat) : Nat := 1 + X 8 0 + X 8 1
def bAll (X : Nat → Nat → Nat) (lim : Nat) : Nat → Nat → BD → Nat × Nat × Nat × BD
  | 0, s, D => (1, s, 0, D)
  | n + 1, s, D => if s < D.1 then (if (bRow X lim s (xE X) 0 D).1 = 1 then bAll X lim n (s + 1) (bRow X lim s (xE X) 0 D).2.2 else ((bRow X lim s (xE X) 0 D).1, s, (bRow X lim s (xE X) 0 D).2.1, (bRow X lim s (xE X) 0 D).2.2)) else (1, s, 0, D)
/-- the first state -/
def sIni (X : Nat → Nat → Nat) : Nat → Nat := fun j => if 8 ≤ j ∧ j < 8 + X 8 0 then (if (sM X 0 0).testBit (j - 8) then 0 else 15) else 0
theorem sV_ini {X : Nat → Nat → Nat} (hX : xG X) (hP : 0 < X 8 1) : sV X (sIni X) := by
  have h0 := (hX.2.2.2.2.2.2 0 hP).1
  have hz : ∀ j, j < 8 → sIni X j = 0 := fun j hj => by unfold sIni; rw [if_neg (by omega)]
  refine ⟨?_, ?_, ?_, ?_, ?_, ?_, fun g hg => ?_, fun g hg => ?_, fun _ => ⟨hz 4 (by omega), hz 5 (by omega), ?_⟩⟩
  · rw [hz 0 (by omega), hz 1 (by omega)]; exact ⟨hP, by omega⟩
  · rw [hz 2 (by omega)]; omega
  · rw [hz 3 (by omega)]; omega
  · rw [hz 4 (by omega), hz 5 (by omega)]; exact ⟨hP, by omega⟩
  · rw [hz 6 (by omega)]; exact hP
  · rw [hz 7 (by omega)]; exact Nat.two_pow_pos _
  · unfold sIni; split
    · split <;> omega
    · omega
  · unfold sIni; rw [if_neg (by omega)]
  · rw [hz 7 (by omega), Nat.zero_and]
/-- what the states found are -/
def bW (X : Nat → Nat → Nat) (lim : Nat) (D : BD) : Prop := (1 ≤ D.1 ∧ D.1 ≤ lim) ∧ (∀ i, i < D.1 → sV X (D.2.1 i)) ∧ (∀ i j, i < D.1 → j < D.1 → eq14 (D.2.1 i) (D.2.1 j) = true → i = j) ∧ D.2.1 0 = sIni X ∧
  (∀ i, 1 ≤ i → i < D.1 → D.2.2.1 i < i ∧ D.2.2.2.1 i < xE X ∧ sFault X (D.2.2.2.1 i) (D.2.1 (D.2.2.1 i)) = 0 ∧ D.2.1 i = sGo X (D.2.2.2.1 i) (D.2.1 (D.2.2.1 i)))
theorem bW_old {X : Nat → Nat → Nat} {lim : Nat} {D : BD} (h : bW X lim D) (s e j : Nat) : bW X lim (bOld D s e j) := h
theorem eq14_comm (s t : Nat → Nat) : eq14 s t = eq14 t s := by
  cases h : eq14 t s
  · cases h2 : eq14 s t
    · rfl
    · have := eq14_iff.mpr (fun i hi => (eq14_iff.mp h2 i hi).symm)
      rw [h] at this; exact absurd this (by decide)
  · exact eq14_iff.mpr (fun i hi => (eq14_iff.mp h i hi).symm)
theorem bW_new {X : Nat → Nat → Nat} (hX : xG X) {lim : Nat} {D : BD} (h : bW X lim D) {s e : Nat} (hs : s < D.1) (he : e < xE X) (hf : sFault X e (D.2.1 s) = 0) (hn : ∀ j, j < D.1 → eq14 (D.2.1 j) (sGo X e (D.2.1 s)) = false) (hl : D.1 < lim) : bW X lim (bNew X D s e) := by
  obtain ⟨⟨h1, h2⟩, h3, h4, h5, h6⟩ := h
  have hST : ∀ i, i < D.1 → (bNew X D s e).2.1 i = D.2.1 i := fun i hi => if_neg (by omega)
  have hNw : (bNew X D s e).2.1 D.1 = sGo X e (D.2.1 s) := if_pos rfl
  refine ⟨⟨Nat.le_add_left 1 D.1, hl⟩, ?_, ?_, ?_, ?_⟩
  · intro i hi
    have hi : i < D.1 + 1 := hi
    by_cases hh : i = D.1
    · rw [hh, hNw]; exact sV_go hX (h3 s hs) (by unfold xE at he; omega)
    · rw [hST i (by omega)]; exact h3 i (by omega)
  · intro i j hi hj hq
    have hi : i < D.1 + 1 := hi
    have hj : j < D.1 + 1 := hj
    by_cases hh : i = D.1
    · by_cases hg : j = D.1
      · omega
      · rw [hh, hNw, hST j (by omega), eq14_comm, hn j (by omega)] at hq
        exact absurd hq (by decide)
    · by_cases hg : j = D.1
      · rw [hg, hNw, hST i (by omega), hn i (by omega)] at hq
        exact absurd hq (by decide)
      · rw [hST i (by omega), hST j (by omega)] at hq
        exact h4 i j (by omega) (by omega) hq
  · rw [hST 0 (by omega)]; exact h5
  · intro i h7 hi
    have hi : i < D.1 + 1 := hi
    by_cases hh : i = D.1
    · subst hh
      have e1 : (bNew X D s e).2.2.1 D.1 = s := if_pos rfl
      have e2 : (bNew X D s e).2.2.2.1 D.1 = e := if_pos rfl
      rw [e1, e2, hST s hs, hNw]
      exact ⟨hs, he, hf, rfl⟩
    · have e1 : (bNew X D s e).2.2.1 i = D.2.2.1 i := if_neg hh
      have e2 : (bNew X D s e).2.2.2.1 i = D.2.2.2.1 i := if_neg hh
      obtain ⟨g1, g2, g3, g4⟩ := h6 i h7 (by omega)
      rw [e1, e2, hST _ (by omega), hST i (by omega)]
      exact ⟨g1, g2, g3, g4⟩
theorem bRow_W {X : Nat → Nat → Nat} (hX : xG X) {lim s : Nat} : ∀ {d e : Nat} {D : BD}, e + d = xE X → bW X lim D → s < D.1 → bW X lim (bRow X lim s d e D).2.2 ∧ D.1 ≤ (bRow X lim s d e D).2.2.1 := by
  intro d
  induction d with
  | zero => intro e D _ h _; exact ⟨h, Nat.le_refl _⟩
  | succ d ih =>
    intro e D he h hs
    unfold bRow
    by_cases hf : sFault X e (D.2.1 s) = 0
    · rw [if_pos hf]
      by_cases hj : fIdx D.2.1 D.1 (sGo X e (D.2.1 s)) < D.1
      · rw [if_pos hj]
        exact ih (by omega) (bW_old h s e _) hs
      · rw [if_neg hj]
        by_cases hl : D.1 = lim
        · rw [if_pos hl]; exact ⟨h, Nat.le_refl _⟩
        · rw [if_neg hl]
          have hno : ∀ j, j < D.1 → eq14 (D.2.1 j) (sGo X e (D.2.1 s)) = false := by
            rcases fIdx_spec D.2.1 D.1 (sGo X e (D.2.1 s)) with ⟨g1, _⟩ | ⟨_, g2⟩
            · exact absurd g1 hj
            · exact g2
          have hn := bW_new hX h hs (by omega) hf hno (by have := h.1.2; omega)
          obtain ⟨k1, k2⟩ := ih (e := e + 1) (by omega) hn (show s < D.1 + 1 by omega)
          exact ⟨k1, Nat.le_trans (Nat.le_succ D.1) k2⟩
    · rw [if_neg hf]; exact ⟨h, Nat.le_refl _⟩
/-- the k-th state before s -/
def anc (par : Nat → Nat) (s : Nat) : Nat → Nat
  | 0 => s
  | k + 1 => par (anc par s k)
def dep (par : Nat → Nat) : Nat → Nat → Nat
  | 0, _ => 0
  | n + 1, s => if s = 0 then 0 else dep par n (par s) + 1
theorem anc_par (par : Nat → Nat) (s k : Nat) : anc par (par s) k = anc par s (k + 1) := by
  induction k with
  | zero => rfl
  | succ k ih => show par (anc par (par s) k) = par (anc par s (k + 1)); rw [ih]
