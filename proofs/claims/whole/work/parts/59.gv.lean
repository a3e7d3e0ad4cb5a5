/-! one edge more is followed -/
theorem kI_new {fd E : Nat} {w : Nat → Bool} {nx : Nat → Nat} {k e m : Nat} {q u d : Nat → Nat} {dn : Nat → Bool} (hE : E ≤ 10) (h : kI fd E w nx k e m q u d dn) (hk : k < m) (he : e < E) : dn (10 * q k + e) = false := by
  obtain ⟨-, hB, -, -, -, -, -, -, hN, -⟩ := h
  cases hd : dn (10 * q k + e)
  · rfl
  · rcases hN _ hd with ⟨i, h1, h2⟩ | ⟨h1, h2⟩
    · rw [show (10 * q k + e) / 10 = q k by omega] at h2
      have := hB i k (by omega) hk h2
      omega
    · rw [show (10 * q k + e) % 10 = e by omega] at h2
      omega
theorem kI_skip {fd E : Nat} {w : Nat → Bool} {nx : Nat → Nat} {k e m : Nat} {q u d : Nat → Nat} {dn : Nat → Bool} (hE : E ≤ 10) (h : kI fd E w nx k e m q u d dn) (he : e < E) (ht : w (nx (10 * q k + e)) = false) : kI fd E w nx k (e + 1) m q u d (fun j => dn j || (j == 10 * q k + e)) := by
  obtain ⟨hA, hB, hC, hM, hU, hD, hD2, hD3, hN, hH1, hH2⟩ := h
  refine ⟨hA, hB, hC, hM, fun t h1 h2 => ?_, fun t h1 h2 => ?_, hD2, fun j h1 h2 h3 h4 => ?_, fun j h1 => ?_, fun i e' h1 h2 => ?_, fun e' h1 => ?_⟩
  · rw [hU t h1 h2]
    refine bcnt_congr (fun j hj => ?_)
    by_cases hh : j = 10 * q k + e
    · have hc : cE E w nx t j = false := by
        rw [hh, cE_at hE he]
        have : (nx (10 * q k + e) == t) = false := by
          simp; intro h9; rw [h9, h2] at ht; exact absurd ht (by decide)
        rw [this, Bool.and_false]
      rw [hc]; rfl
    · have : (j == 10 * q k + e) = false := by simp [hh]
      show (cE E w nx t j && !dn j) = (cE E w nx t j && !(dn j || (j == 10 * q k + e)))
      rw [this, Bool.or_false]
  · obtain ⟨g1, g2, g3⟩ := hD t h1 h2
    exact ⟨g1, g2, by rw [if_neg (by omega)]; split at g3 <;> omega⟩
  · by_cases hh : j = 10 * q k + e
    · rw [hh, ht] at h4; exact absurd h4 (by decide)
    · have h9 : (j == 10 * q k + e) = false := by simp [hh]
      have h3 : (dn j || (j == 10 * q k + e)) = true := h3
      rw [h9, Bool.or_false] at h3
      exact hD3 j h1 h2 h3 h4
  · by_cases hh : j = 10 * q k + e
    · right; rw [hh]; exact ⟨by omega, by omega⟩
    · have h9 : (j == 10 * q k + e) = false := by simp [hh]
      have h1 : (dn j || (j == 10 * q k + e)) = true := h1
      rw [h9, Bool.or_false] at h1
      rcases hN j h1 with h | ⟨h2, h3⟩
      · exact Or.inl h
      · exact Or.inr ⟨h2, by omega⟩
  · show (dn (10 * q i + e') || _) = true
    rw [hH1 i e' h1 h2]; rfl
  · show (dn (10 * q k + e') || (10 * q k + e' == 10 * q k + e)) = true
    by_cases hh : e' = e
    · rw [hh]; simp
    · rw [hH2 e' (by omega)]; rfl
theorem kI_more {fd E : Nat} {w : Nat → Bool} {nx : Nat → Nat} {k e m : Nat} {q u d : Nat → Nat} {dn : Nat → Bool} (hE : E ≤ 10) (h : kI fd E w nx k e m q u d dn) (hk : k < m) (he : e < E) (ht : w (nx (10 * q k + e)) = true) (htl : nx (10 * q k + e) < fd) :
    1 ≤ u (nx (10 * q k + e)) ∧ m < fd ∧ (∀ i, i < m → q i ≠ nx (10 * q k + e)) ∧ kI fd E w nx k (e + 1) (if u (nx (10 * q k + e)) = 1 then m + 1 else m) (if u (nx (10 * q k + e)) = 1 then sU q m (nx (10 * q k + e)) else q) (sU u (nx (10 * q k + e)) (u (nx (10 * q k + e)) - 1)) (sU d (nx (10 * q k + e)) (if d (nx (10 * q k + e)) < d (q k) + 1 then d (q k) + 1 else d (nx (10 * q k + e)))) (fun j => dn j || (j == 10 * q k + e)) := by
  have hnew := kI_new hE h hk he
  obtain ⟨hA, hB, hC, hM, hU, hD, hD2, hD3, hN, hH1, hH2⟩ := h
  obtain ⟨hqf, hqw, -⟩ := hA k hk
  generalize htt : nx (10 * q k + e) = t at *
  have hct : cE E w nx t (10 * q k + e) = true := by rw [cE_at hE he, hqw, htt]; simp
  have hoff := bcnt_off (c := fun j => cE E w nx t j && !dn j) (d := fun j => cE E w nx t j && !(dn j || (j == 10 * q k + e))) (j := 10 * q k + e) (by simp) (by show (cE E w nx t (10 * q k + e) && !dn (10 * q k + e)) = true; rw [hct, hnew]; rfl) (fun i hi => by
    have : (i == 10 * q k + e) = false := by simp [hi]
    show (cE E w nx t i && !(dn i || (i == 10 * q k + e))) = _
    rw [this, Bool.or_false]) (n := 10 * fd) (by omega)
  have hut := hU t htl ht
  have hu1 : 1 ≤ u t := by omega
  have hnq : ∀ i, i < m → q i ≠ t := fun i hi hh => by
    have := (hA i hi).2.2
    rw [hh] at this; omega
  have hmlt : m < fd := by
    have h1 : bcnt (fun t => w t && decide (u t = 0)) fd < bcnt w fd := bcnt_lt (j := t) (fun k _ hk => by
      simp only [Bool.and_eq_true] at hk; exact hk.1) htl (by show (w t && decide (u t = 0)) = false; rw [decide_eq_false (by omega), Bool.and_false]) ht
    have h2 := bcnt_le w fd
    omega
  have hU' : ∀ x, x ≠ t → sU u t (u t - 1) x = u x := fun x hx => if_neg hx
  have hU0 : sU u t (u t - 1) t = u t - 1 := if_pos rfl
  have hd' : ∀ x, x ≠ t → sU d t (if d t < d (q k) + 1 then d (q k) + 1 else d t) x = d x := fun x hx => if_neg hx
  have hd0 : sU d t (if d t < d (q k) + 1 then d (q k) + 1 else d t) t = (if d t < d (q k) + 1 then d (q k) + 1 else d t) := if_pos rfl
  have hqk := hnq k hk
  have hqd := hD (q k) hqf hqw
  have hq2 := hD2 k hk
  have htd := hD t htl ht
  -- what doesn't speak of the queue
  have gU : ∀ x, x < fd → w x = true → sU u t (u t - 1) x = bcnt (fun j => cE E w nx x j && !(dn j || (j == 10 * q k + e))) (10 * fd) := fun x h1 h2 => by
    by_cases hx : x = t
    · rw [hx, hU0]; omega
    · rw [hU' x hx, hU x h1 h2]
      refine bcnt_congr (fun j hj => ?_)
      by_cases hh : j = 10 * q k + e
      · have hc : cE E w nx x j = false := by
          rw [hh, cE_at hE he, htt]
          have : (t == x) = false := by simp; exact fun h9 => hx h9.symm
          rw [this, Bool.and_false]
        rw [hc]; rfl
      · have : (j == 10 * q k + e) = false := by simp [hh]
        rw [this, Bool.or_false]
  have gD : ∀ x, x < fd → w x = true → 1 ≤ sU d t (if d t < d (q k) + 1 then d (q k) + 1 else d t) x ∧ chE fd E w nx x (sU d t (if d t < d (q k) + 1 then d (q k) + 1 else d t) x) ∧ sU d t (if d t < d (q k) + 1 then d (q k) + 1 else d t) x ≤ k + 1 + (if e + 1 = 0 then 0 else 1) := fun x h1 h2 => by
    rw [if_neg (show ¬ e + 1 = 0 by omega)]
    by_cases hx : x = t
    · rw [hx, hd0]
      by_cases hh : d t < d (q k) + 1
      · rw [if_pos hh]
        exact ⟨by omega, chE_cons htl ht he htt hqd.2.1, by omega⟩
      · rw [if_neg hh]
        refine ⟨htd.1, htd.2.1, ?_⟩
        have := htd.2.2
        split at this <;> omega
    · rw [hd' x hx]
      obtain ⟨g1, g2, g3⟩ := hD x h1 h2
      exact ⟨g1, g2, by split at g3 <;> omega⟩
  have gD3 : ∀ j, j < 10 * fd → j % 10 < E → (dn j || (j == 10 * q k + e)) = true → w (nx j) = true → sU d t (if d t < d (q k) + 1 then d (q k) + 1 else d t) (j / 10) + 1 ≤ sU d t (if d t < d (q k) + 1 then d (q k) + 1 else d t) (nx j) := fun j h1 h2 h3 h4 => by
    by_cases hh : j = 10 * q k + e
    · rw [hh, show (10 * q k + e) / 10 = q k by omega, htt, hd' _ hqk, hd0]
      split <;> omega
    · have h9 : (j == 10 * q k + e) = false := by simp [hh]
      have h3 : (dn j || (j == 10 * q k + e)) = true := h3
      rw [h9, Bool.or_false] at h3
      have hsrc : j / 10 ≠ t := by
        rcases hN j h3 with ⟨i, g1, g2⟩ | ⟨g1, _⟩
        · rw [← g2]; exact hnq i (by omega)
        · rw [g1]; exact hqk
      have h5 := hD3 j h1 h2 h3 h4
      rw [hd' _ hsrc]
      by_cases hx : nx j = t
      · rw [hx, hd0]; rw [hx] at h5; split <;> omega
      · rw [hd' _ hx]; exact h5
  refine ⟨hu1, hmlt, hnq, ?_⟩
  by_cases hone : u t = 1
  · rw [if_pos hone, if_pos hone]
    have hq' : ∀ i, i < m → sU q m t i = q i := fun i hi => if_neg (by omega)
    have hqm : sU q m t m = t := if_pos rfl
    refine ⟨fun i hi => ?_, fun i j hi hj hij => ?_, fun x h1 h2 h3 => ?_, ?_, gU, gD, fun i hi => ?_, gD3, fun j h1 => ?_, fun i e' h1 h2 => ?_, fun e' h1 => ?_⟩
    · by_cases hh : i = m
      · rw [hh, hqm, hU0]; exact ⟨htl, ht, by omega⟩
      · rw [hq' i (by omega), hU' _ (hnq i (by omega))]; exact hA i (by omega)
    · by_cases hh : i = m
      · by_cases hg : j = m
        · omega
        · rw [hh, hqm, hq' j (by omega)] at hij
          exact absurd hij.symm (hnq j (by omega))
      · by_cases hg : j = m
        · rw [hg, hqm, hq' i (by omega)] at hij
          exact absurd hij (hnq i (by omega))
        · rw [hq' i (by omega), hq' j (by omega)] at hij
          exact hB i j (by omega) (by omega) hij
    · by_cases hx : x = t
      · exact ⟨m, by omega, by rw [hqm, hx]⟩
      · rw [hU' x hx] at h3
        obtain ⟨i, g1, g2⟩ := hC x h1 h2 h3
        exact ⟨i, by omega, by rw [hq' i g1]; exact g2⟩
    · rw [hM]
      refine (bcnt_off (j := t) ?_ ?_ (fun i hi => ?_) htl)
      · show (w t && decide (u t = 0)) = false
        rw [decide_eq_false (by omega), Bool.and_false]
      · show (w t && decide (sU u t (u t - 1) t = 0)) = true
        rw [ht, hU0, hone]; rfl
      · show (w i && decide (u i = 0)) = (w i && decide (sU u t (u t - 1) i = 0))
        rw [hU' i hi]
    · by_cases hh : i = m
      · rw [hh, hqm, hd0]
        have := htd.2.2
        split
        · omega
        · split at this <;> omega
      · rw [hq' i (by omega), hd' _ (hnq i (by omega))]; exact hD2 i (by omega)
    · by_cases hh : j = 10 * q k + e
      · right; rw [hh, hq' k hk]; exact ⟨by omega, by omega⟩
      · have h9 : (j == 10 * q k + e) = false := by simp [hh]
        have h1 : (dn j || (j == 10 * q k + e)) = true := h1
        rw [h9, Bool.or_false] at h1
        rcases hN j h1 with ⟨i, g1, g2⟩ | ⟨h2, h3⟩
        · exact Or.inl ⟨i, g1, by rw [hq' i (by omega)]; exact g2⟩
        · exact Or.inr ⟨by rw [hq' k hk]; exact h2, by omega⟩
    · show (dn (10 * sU q m t i + e') || _) = true
      rw [hq' i (by omega), hH1 i e' h1 h2]; rfl
    · show (dn (10 * sU q m t k + e') || (10 * sU q m t k + e' == 10 * q k + e)) = true
      rw [hq' k hk]
      by_cases hh : e' = e
      · rw [hh]; simp
      · rw [hH2 e' (by omega)]; rfl
  · rw [if_neg hone, if_neg hone]
    refine ⟨fun i hi => ?_, hB, fun x h1 h2 h3 => ?_, ?_, gU, gD, fun i hi => ?_, gD3, fun j h1 => ?_, fun i e' h1 h2 => ?_, fun e' h1 => ?_⟩
    · rw [hU' _ (hnq i hi)]; exact hA i hi
    · by_cases hx : x = t
      · rw [hx, hU0] at h3; omega
      · rw [hU' x hx] at h3; exact hC x h1 h2 h3
    · rw [hM]
      refine bcnt_congr (fun i hi => ?_)
      by_cases hx : i = t
      · rw [hx, hU0, decide_eq_false (by omega), decide_eq_false (by omega)]
      · rw [hU' i hx]
    · rw [hd' _ (hnq i hi)]; exact hD2 i hi
    · by_cases hh : j = 10 * q k + e
      · right; rw [hh]; exact ⟨by omega, by omega⟩
      · have h9 : (j == 10 * q k + e) = false := by simp [hh]
        have h1 : (dn j || (j == 10 * q k + e)) = true := h1
        rw [h9, Bool.or_false] at h1
        rcases hN j h1 with h | ⟨h2, h3⟩
        · exact Or.inl h
        · exact Or.inr ⟨h2, by omega⟩
    · show (dn (10 * q i + e') || _) = true
      rw [hH1 i e' h1 h2]; rfl
    · show (dn (10 * q k + e') || (10 * q k + e' == 10 * q k + e)) = true
      by_cases hh : e' = e
      · rw [hh]; simp
      · rw [hH2 e' (by omega)]; rfl
theorem kI_next {fd E : Nat} {w : Nat → Bool} {nx : Nat → Nat} {k m : Nat} {q u d : Nat → Nat} {dn : Nat → Bool} (h : kI fd E w nx k E m q u d dn) : kI fd E w nx (k + 1) 0 m q u d dn := by
  obtain ⟨hA, hB, hC, hM, hU, hD, hD2, hD3, hN, hH1, hH2⟩ := h
  refine ⟨hA, hB, hC, hM, hU, fun t h1 h2 => ?_, hD2, hD3, fun j h1 => ?_, fun i e' h1 h2 => ?_, fun e' h => by omega⟩
  · obtain ⟨g1, g2, g3⟩ := hD t h1 h2
    exact ⟨g1, g2, by rw [if_pos rfl]; split at g3 <;> omega⟩
  · rcases hN j h1 with ⟨i, g1, g2⟩ | ⟨g1, _⟩
    · exact Or.inl ⟨i, by omega, g2⟩
    · exact Or.inl ⟨k, by omega, g1.symm⟩
  · by_cases hh : i = k
    · rw [hh]; exact hH2 e' h2
    · exact hH1 i e' (by omega) h2
/-- all are followed: what the answer is -/
theorem kI_end {fd E : Nat} {w : Nat → Bool} {nx : Nat → Nat} {m : Nat} {q u d : Nat → Nat} {dn : Nat → Bool} (hE : E ≤ 10) (hnx : ∀ s e, s < fd → e < E → nx (10 * s + e) < fd) (h : kI fd E w nx m 0 m q u d dn) : lgC fd E w nx (if bcnt w fd ≤ m then nI (nmax (fun i => d (q i)) m) else -1) := by
  obtain ⟨hA, hB, hC, hM, hU, hD, hD2, hD3, hN, hH1, hH2⟩ := h
  by_cases hh : bcnt w fd ≤ m
  · rw [if_pos hh]
    have hall : ∀ t, t < fd → w t = true → u t = 0 := fun t h1 h2 => by
      by_cases h0 : u t = 0
      · exact h0
      · have := bcnt_lt (c := fun t => w t && decide (u t = 0)) (d := w) (j := t) (fun k _ hk => by
          simp only [Bool.and_eq_true] at hk; exact hk.1) h1 (by show (w t && decide (u t = 0)) = false; rw [decide_eq_false h0, Bool.and_false]) h2
        omega
    have hed : ∀ s e, s < fd → w s = true → e < E → w (nx (10 * s + e)) = true → d s + 1 ≤ d (nx (10 * s + e)) := fun s e h1 h2 h3 h4 => by
      obtain ⟨i, g1, g2⟩ := hC s h1 h2 (hall s h1 h2)
      have := hD3 (10 * s + e) (by omega) (by omega) (by rw [← g2]; exact hH1 i e g1 h3) h4
      rwa [show (10 * s + e) / 10 = s by omega] at this
    refine Or.inr ⟨_, rfl, nmax_le (fun i hi => ?_), fun k hk => ?_, ?_⟩
    · have h1 := hD2 i hi
      have h2 : m ≤ fd := by rw [hM]; exact bcnt_le _ _
      show d (q i) ≤ fd
      omega
    · cases k with
      | zero => exact Nat.zero_le _
      | succ k =>
        obtain ⟨p, p1, p2⟩ := hk
        have key : ∀ i, i < k + 1 → i + 1 ≤ d (p i) := by
          intro i
          induction i with
          | zero => intro hi; exact (hD (p 0) (p1 0 hi).1 (p1 0 hi).2).1
          | succ i ih =>
            intro hi
            obtain ⟨e, he, h3⟩ := p2 i hi
            have h4 := ih (by omega)
            have h5 := p1 i (by omega)
            have h6 := p1 (i + 1) hi
            have h7 := hed (p i) e h5.1 h5.2 he (by rw [h3]; exact h6.2)
            rw [h3] at h7
            omega
        have h1 := key k (by omega)
        have h2 := p1 k (by omega)
        obtain ⟨i, g1, g2⟩ := hC (p k) h2.1 h2.2 (hall _ h2.1 h2.2)
        have h3 := nmax_ge (f := fun i => d (q i)) g1
        have h3 : d (q i) ≤ nmax (fun i => d (q i)) m := h3
        rw [g2] at h3
        omega
    · rcases nmax_at (f := fun i => d (q i)) (n := m) with h | ⟨i, g1, g2⟩
      · exact Or.inl h
      · right
        have h3 := hA i g1
        rw [← g2]
        exact chE_pth (hD (q i) h3.1 h3.2.1).2.1
  · rw [if_neg hh]
    refine Or.inl ⟨rfl, ?_⟩
    have hex : ∃ t, t < fd ∧ w t = true ∧ u t ≠ 0 := by
      by_cases hx : ∃ t, t < fd ∧ w t = true ∧ u t ≠ 0
      · exact hx
      · exfalso
        apply hh
        rw [hM]
        exact bcnt_mono (fun k hk hwk => by
          show (w k && decide (u k = 0)) = true
          rw [hwk, decide_eq_true (Decidable.byContradiction (fun h0 => hx ⟨k, hk, hwk, h0⟩))]; rfl)
    have key : ∀ k t, t < fd → w t = true → u t ≠ 0 → chE fd E w nx t k := by
      intro k
      induction k with
      | zero => intro t h1 h2 h3; exact ⟨fun _ => t, rfl, fun i hi => by omega, fun i hi => by omega⟩
      | succ k ih =>
        intro t h1 h2 h3
        rw [hU t h1 h2] at h3
        obtain ⟨j, g1, g2⟩ := bcnt_pos h3
        have g2 : (cE E w nx t j && !dn j) = true := g2
        unfold cE at g2
        simp only [Bool.and_eq_true, Bool.not_eq_true', decide_eq_true_eq, beq_iff_eq] at g2
        obtain ⟨⟨⟨g3, g4⟩, g5⟩, g6⟩ := g2
        have hs : j / 10 < fd := by omega
        have hun : u (j / 10) ≠ 0 := fun h0 => by
          obtain ⟨i, k1, k2⟩ := hC (j / 10) hs g3 h0
          have := hH1 i (j % 10) k1 g4
          rw [k2, show 10 * (j / 10) + j % 10 = j by omega, g6] at this
          exact absurd this (by decide)
        exact chE_cons (s := j / 10) (e := j % 10) h1 h2 g4 (by rw [show 10 * (j / 10) + j % 10 = j by omega]; exact g5) (ih (j / 10) hs g3 hun)
    obtain ⟨t, h1, h2, h3⟩ := hex
    intro k
    exact chE_pth (key k t h1 h2 h3)
