/-! the class's longest wait, run -/
theorem pc_chain {F : Nat} (hF : 2000 ≤ F) {fd E g : Nat} (hE : E ≤ 10) (hfd : fd ≤ 400) {w : Nat → Bool} {nx : Nat → Nat} (hnx : ∀ s e, s < fd → e < E → nx (10 * s + e) < fd) {nz : Nat → Int32} (hnz : ∀ s e, s < fd → e < E → nz (10 * s + e) = nI (nx (10 * s + e))) {ks : Nat → Int64} (hW : ∀ i, i < fd → m_X2_waitsIn F (ks i) (nI g) = some (nI (b2n (w i)))) (uz dz qz : Nat → Int32) :
    ∃ r uz' dz' qz', m_X5_longestChain F (nI fd) (nI E) (nI g) nz uz dz qz ks = some (r, (uz', dz', qz')) ∧ lgC fd E w nx r := by
  unfold m_X5_longestChain
  obtain ⟨u1, d1, e1, h1, h2⟩ := pc_count hF hE hfd hnx hnz hW uz dz
  rw [e1, pn_bd]
  have hcl : ∀ t, bcnt (cE E w nx t) (10 * fd) ≤ 10 * fd := fun t => bcnt_le _ _
  have hwl := bcnt_le w fd
  -- following a state's edges
  have inner : ∀ (dd k e n m : Nat) (q u d : Nat → Nat) (dn : Nat → Bool) (x7 : Int32) (uz dz qz : Nat → Int32) (k69 : (Int32) → (Int32) → (Int32) → (Int32) → (Int32) → (Int32) → (Nat → Int32) → (Nat → Int32) → (Nat → Int32) → Option (Int32 × ((Nat → Int32) × (Nat → Int32) × (Nat → Int32)))), e + dd = E → dd < n → k < m → kI fd E w nx k e m q u d dn → (∀ t, t < fd → w t = true → uz t = nI (u t)) → (∀ t, t < fd → dz t = nI (d t)) → (∀ i, i < m → qz i = nI (q i)) → (∀ t, t < fd → d t ≤ 1000) → x7 = nI (nmax (fun i => d (q i)) (k + 1)) →
      ∃ m' q' u' d' dn' uz' dz' qz', m_X5_longestChain_L109 F nz ks k69 n (nI E) (nI g) (nI (bcnt w fd)) (nI m) x7 (nI k) (nI (q k)) (nI e) uz dz qz = k69 (nI E) (nI g) (nI (bcnt w fd)) (nI m') x7 (nI (k + 1)) uz' dz' qz' ∧ kI fd E w nx k E m' q' u' d' dn' ∧ (∀ t, t < fd → w t = true → uz' t = nI (u' t)) ∧ (∀ t, t < fd → dz' t = nI (d' t)) ∧ (∀ i, i < m' → qz' i = nI (q' i)) ∧ m ≤ m' ∧ (∀ t, t < fd → d' t ≤ 1000) ∧ x7 = nI (nmax (fun i => d' (q' i)) (k + 1)) := by
    intro dd
    induction dd with
    | zero =>
      intro k e n m q u d dn x7 uz dz qz k69 he hn hkm hI hu hd hq hb hx
      obtain ⟨n, rfl⟩ : ∃ z, n = z + 1 := ⟨n - 1, by omega⟩
      have he : e = E := by omega
      subst he
      refine ⟨m, q, u, d, dn, uz, dz, qz, ?_, hI, hu, hd, hq, Nat.le_refl _, hb, hx⟩
      rw [u_X5_longestChain_L109, if_pos (nI_le (Nat.le_refl _) (by omega)), nI_1]
    | succ dd ih =>
      intro k e n m q u d dn x7 uz dz qz k69 he hn hkm hI hu hd hq hb hx
      obtain ⟨n, rfl⟩ : ∃ z, n = z + 1 := ⟨n - 1, by omega⟩
      have hqk := (hI.1 k hkm)
      have htl := hnx (q k) e hqk.1 (by omega)
      have hml : m ≤ fd := by rw [hI.2.2.2.1]; exact bcnt_le _ _
      rw [u_X5_longestChain_L109, if_neg (nI_ge (by omega) (by omega)), show nI (q k) * 10 = nI (q k * 10) from pk_mul (q k) 10, nI_add, show q k * 10 + e = 10 * q k + e by omega, pn_ck (by omega) (by omega), nI_clamp (by omega), hnz (q k) e hqk.1 (by omega), pn_ck (by omega) (by omega), nI_clamp (by omega), hW _ htl, pn_bd]
      cases hwt : w (nx (10 * q k + e))
      · rw [if_pos (show nI (b2n false) = 0 from rfl)]
        unfold m_X5_longestChain_J208
        rw [nI_1]
        exact ih k (e + 1) n m q u d _ x7 uz dz qz k69 (by omega) (by omega) hkm (kI_skip hE hI (by omega) hwt) hu hd hq hb hx
      · obtain ⟨g1, g2, g3, g4⟩ := kI_more hE hI hkm (by omega) hwt htl
        have hD2k := hI.2.2.2.2.2.2.1 k hkm
        rw [if_neg (show ¬ nI (b2n true) = 0 by decide)]
        generalize htt : nx (10 * q k + e) = t at *
        have hut := hI.2.2.2.2.1 t htl hwt
        have hut2 := bcnt_le (fun j => cE E w nx t j && !dn j) (10 * fd)
        have hdt := hb t htl
        have hdk := hb (q k) hqk.1
        rw [pn_ck (by omega) (by omega), pn_ck (by omega) (by omega), pn_ck (by omega) (by omega), pn_ck (by omega) (by omega), pn_ck (by omega) (by omega), pn_ck (by omega) (by omega), nI_clamp (by omega), hu t htl hwt, hd t htl, hd (q k) hqk.1, upd_same, show nI (u t) - 1 = nI (u t - 1) from pk_sub (b := 1) g1]
        have emax : (if nI (d t) < nI (d (q k)) + 1 then nI (d (q k)) + 1 else nI (d t)) = nI (if d t < d (q k) + 1 then d (q k) + 1 else d t) := by
          rw [nI_1]
          by_cases hh : d t < d (q k) + 1
          · rw [if_pos (nI_lt hh (by omega)), if_pos hh]
          · rw [if_neg (nI_nlt (by omega) (by omega)), if_neg hh]
        rw [emax]
        have hu' : ∀ x, x < fd → w x = true → upd uz t (nI (u t - 1)) x = nI (sU u t (u t - 1) x) := fun x h1 h2 => by
          unfold upd sU
          by_cases hh : x = t
          · rw [if_pos hh, if_pos hh]
          · rw [if_neg hh, if_neg hh]; exact hu x h1 h2
        have hd' : ∀ x, x < fd → upd dz t (nI (if d t < d (q k) + 1 then d (q k) + 1 else d t)) x = nI (sU d t (if d t < d (q k) + 1 then d (q k) + 1 else d t) x) := fun x h1 => by
          unfold upd sU
          by_cases hh : x = t
          · rw [if_pos hh, if_pos hh]
          · rw [if_neg hh, if_neg hh]; exact hd x h1
        have hb' : ∀ x, x < fd → sU d t (if d t < d (q k) + 1 then d (q k) + 1 else d t) x ≤ 1000 := fun x h1 => by
          unfold sU
          have := hb x h1
          split
          · split <;> omega
          · omega
        unfold m_X5_longestChain_J208
        by_cases hone : u t = 1
        · rw [if_pos hone, if_pos hone] at g4
          have hm2 : m + 1 ≤ bcnt w fd := Nat.le_trans (Nat.le_of_eq g4.2.2.2.1) (bcnt_mono (fun k _ hk => by simp only [Bool.and_eq_true] at hk; exact hk.1))
          rw [if_pos (show nI (u t - 1) = 0 by rw [hone]; rfl), if_neg (show ¬ nI (bcnt w fd) ≤ nI m from nI_ge (by omega) (by omega)), pn_ck (by omega) (by omega), nI_clamp (by omega), nI_1, nI_1]
          have hqk' : sU q m t k = q k := if_neg (by omega)
          obtain ⟨m', q', u', d', dn', uz', dz', qz', r1, r2, r3, r4, r5, r6, r7, r8⟩ := ih k (e + 1) n (m + 1) (sU q m t) _ _ _ x7 (upd uz t (nI (u t - 1))) (upd dz t (nI (if d t < d (q k) + 1 then d (q k) + 1 else d t))) (upd qz m (nI t)) k69 (by omega) (by omega) (by omega) g4 hu' hd' (fun i hi => by
            unfold upd sU
            by_cases hh : i = m
            · rw [if_pos hh, if_pos hh]
            · rw [if_neg hh, if_neg hh]; exact hq i (by omega)) hb' (by
            rw [hx]
            congr 1
            refine nmax_congr (fun i hi => ?_)
            show d (q i) = sU d t _ (sU q m t i)
            rw [show sU q m t i = q i from if_neg (by omega)]
            exact (if_neg (g3 i (by omega))).symm)
          rw [hqk'] at r1
          exact ⟨m', q', u', d', dn', uz', dz', qz', r1, r2, r3, r4, r5, by omega, r7, r8⟩
        · rw [if_neg (zn0 (show u t - 1 ≠ 0 by omega) (by omega)), nI_1]
          rw [if_neg hone, if_neg hone] at g4
          exact ih k (e + 1) n m q _ _ _ x7 _ _ qz k69 (by omega) (by omega) hkm g4 hu' hd' hq hb' (by
            rw [hx]
            congr 1
            refine nmax_congr (fun i hi => ?_)
            show d (q i) = sU d t _ (q i)
            exact (if_neg (g3 i (by omega))).symm)
  -- following all of them
  have outer : ∀ (dd k n m : Nat) (q u d : Nat → Nat) (dn : Nat → Bool) (uz dz qz : Nat → Int32), fd ≤ k + dd → dd < n → k ≤ m → kI fd E w nx k 0 m q u d dn → (∀ t, t < fd → w t = true → uz t = nI (u t)) → (∀ t, t < fd → dz t = nI (d t)) → (∀ i, i < m → qz i = nI (q i)) → (∀ t, t < fd → d t ≤ 1000) →
      ∃ r uz' dz' qz', m_X5_longestChain_L69 F nz ks n (nI E) (nI g) (nI (bcnt w fd)) (nI m) (nI (nmax (fun i => d (q i)) k)) (nI k) uz dz qz = some (r, (uz', dz', qz')) ∧ lgC fd E w nx r := by
    intro dd
    have fin : ∀ (m : Nat) (q u d : Nat → Nat) (dn : Nat → Bool) (uz dz qz : Nat → Int32), kI fd E w nx m 0 m q u d dn → ∃ r uz' dz' qz', m_X5_longestChain_J220 F nz ks (nI (bcnt w fd)) (nI m) (nI (nmax (fun i => d (q i)) m)) uz dz qz = some (r, (uz', dz', qz')) ∧ lgC fd E w nx r := by
      intro m q u d dn uz dz qz hI
      have hml : m ≤ fd := by rw [hI.2.2.2.1]; exact bcnt_le _ _
      refine ⟨_, uz, dz, qz, ?_, kI_end hE hnx hI⟩
      unfold m_X5_longestChain_J220
      by_cases hh : bcnt w fd ≤ m
      · rw [if_pos (nI_le hh (by omega)), if_pos hh]
      · rw [if_neg (nI_ge (by omega) (by omega)), if_neg hh]
    have hmw : ∀ (k m : Nat) (q u d : Nat → Nat) (dn : Nat → Bool), kI fd E w nx k 0 m q u d dn → m ≤ bcnt w fd := fun k m q u d dn hI => by
      rw [hI.2.2.2.1]
      exact bcnt_mono (fun k _ hk => by simp only [Bool.and_eq_true] at hk; exact hk.1)
    induction dd with
    | zero =>
      intro k n m q u d dn uz dz qz hk hn hkm hI hu hd hq hb
      obtain ⟨n, rfl⟩ : ∃ z, n = z + 1 := ⟨n - 1, by omega⟩
      have hm1 := hmw k m q u d dn hI
      have hkm2 : k = m := by omega
      subst hkm2
      rw [u_X5_longestChain_L69]
      split
      · exact fin k q u d dn uz dz qz hI
      · rw [if_pos (nI_le (Nat.le_refl _) (by omega))]
        exact fin k q u d dn uz dz qz hI
    | succ dd ih =>
      intro k n m q u d dn uz dz qz hk hn hkm hI hu hd hq hb
      obtain ⟨n, rfl⟩ : ∃ z, n = z + 1 := ⟨n - 1, by omega⟩
      have hm1 := hmw k m q u d dn hI
      by_cases hkm2 : k = m
      · subst hkm2
        rw [u_X5_longestChain_L69]
        split
        · exact fin k q u d dn uz dz qz hI
        · rw [if_pos (nI_le (Nat.le_refl _) (by omega))]
          exact fin k q u d dn uz dz qz hI
      · have hqk := hI.1 k (by omega)
        rw [u_X5_longestChain_L69, if_neg (nI_ge (by omega) (by omega)), if_neg (nI_ge (by omega) (by omega)), pn_ck (by omega) (by omega), nI_clamp (by omega), hq k (by omega), pn_ck (by omega) (by omega), nI_clamp (by omega), hd (q k) hqk.1]
        have hmx : nmax (fun i => d (q i)) k ≤ 1000 := nmax_le (fun i hi => hb (q i) (hI.1 i (by omega)).1)
        have hdk := hb (q k) hqk.1
        have e7 : (if nI (nmax (fun i => d (q i)) k) < nI (d (q k)) then nI (d (q k)) else nI (nmax (fun i => d (q i)) k)) = nI (nmax (fun i => d (q i)) (k + 1)) := by
          simp only [nmax]
          by_cases hh : nmax (fun i => d (q i)) k < d (q k)
          · rw [if_pos (nI_lt hh (by omega)), if_pos hh]
          · rw [if_neg (nI_nlt (by omega) (by omega)), if_neg hh]
        rw [e7]
        obtain ⟨m', q', u', d', dn', uz', dz', qz', r1, r2, r3, r4, r5, r6, r7, r8⟩ := inner E k 0 F m q u d dn _ uz dz qz (m_X5_longestChain_L69 F nz ks n) (by omega) (by omega) (by omega) hI hu hd hq hb rfl
        obtain ⟨r, uz2, dz2, qz2, s1, s2⟩ := ih (k + 1) n m' q' u' d' dn' uz' dz' qz' (by omega) (by omega) (by omega) (kI_next r2) r3 r4 r5 r7
        refine ⟨r, uz2, dz2, qz2, ?_, s2⟩
        refine Eq.trans r1 ?_
        rw [r8]; exact s1
  -- the first ones
  have first : ∀ (dd s n m : Nat) (q : Nat → Nat) (qz : Nat → Int32), s + dd = fd → dd < n → (∀ i, i < m → q i < s ∧ w (q i) = true ∧ bcnt (cE E w nx (q i)) (10 * fd) = 0) → (∀ i j, i < m → j < m → q i = q j → i = j) → (∀ t, t < s → w t = true → bcnt (cE E w nx t) (10 * fd) = 0 → ∃ i, i < m ∧ q i = t) → m = bcnt (fun t => w t && decide (bcnt (cE E w nx t) (10 * fd) = 0)) s → (∀ i, i < m → qz i = nI (q i)) →
      ∃ r uz' dz' qz', m_X5_longestChain_L17 F nz ks n (nI fd) (nI E) (nI g) (nI (bcnt w fd)) (nI m) (nI s) u1 d1 qz = some (r, (uz', dz', qz')) ∧ lgC fd E w nx r := by
    intro dd
    induction dd with
    | zero =>
      intro s n m q qz hs hn hA hB hC hM hq
      obtain ⟨n, rfl⟩ : ∃ z, n = z + 1 := ⟨n - 1, by omega⟩
      have hs : s = fd := by omega
      subst hs
      rw [u_X5_longestChain_L17, if_pos (nI_le (Nat.le_refl _) (by omega))]
      refine outer s 0 F m q (fun t => bcnt (cE E w nx t) (10 * s)) (fun _ => 1) (fun _ => false) u1 d1 qz (by omega) (by omega) (Nat.zero_le _) ?_ (fun t h3 _ => h1 t h3) h2 hq (fun _ _ => by omega)
      refine ⟨hA, hB, hC, hM, fun t _ _ => bcnt_congr (fun j _ => by rw [Bool.not_false, Bool.and_true]), fun t h3 h4 => ⟨Nat.le_refl _, ⟨fun _ => t, rfl, fun i _ => ⟨h3, h4⟩, fun i hi => absurd (show i + 1 < 1 from hi) (by omega)⟩, by show 1 ≤ 0 + 1 + (if (0 : Nat) = 0 then 0 else 1); omega⟩, fun i _ => by show 1 ≤ i + 1; omega, fun j _ _ h => absurd (show false = true from h) (by decide), fun j h => absurd (show false = true from h) (by decide), fun i e' h => by omega, fun e' h => by omega⟩
    | succ dd ih =>
      intro s n m q qz hs hn hA hB hC hM hq
      obtain ⟨n, rfl⟩ : ∃ z, n = z + 1 := ⟨n - 1, by omega⟩
      have hml : m ≤ s := by rw [hM]; exact bcnt_le _ _
      have hcs := hcl s
      rw [u_X5_longestChain_L17, if_neg (nI_ge (by omega) (by omega)), pn_ck (by omega) (by omega), nI_clamp (by omega), hW s (by omega), pn_bd]
      unfold m_X5_longestChain_J57
      have hno : (w s && decide (bcnt (cE E w nx s) (10 * fd) = 0)) = false → ∃ r uz' dz' qz', m_X5_longestChain_L17 F nz ks n (nI fd) (nI E) (nI g) (nI (bcnt w fd)) (nI m) (nI (s + 1)) u1 d1 qz = some (r, (uz', dz', qz')) ∧ lgC fd E w nx r := fun hx => by
        refine ih (s + 1) n m q qz (by omega) (by omega) (fun i hi => ⟨by have := (hA i hi).1; omega, (hA i hi).2⟩) hB (fun t h3 h4 h5 => ?_) ?_ hq
        · by_cases hh : t = s
          · rw [hh] at h4 h5
            rw [h4, h5] at hx; exact absurd hx (by decide)
          · exact hC t (by omega) h4 h5
        · rw [hM]; simp only [bcnt, hx, Bool.false_eq_true, if_false, Nat.add_zero]
      cases hws : w s
      · rw [if_pos (show nI (b2n false) = 0 from rfl), nI_1]
        exact hno (by rw [hws]; rfl)
      · rw [if_neg (show ¬ nI (b2n true) = 0 by decide), pn_ck (by omega) (by omega), h1 s (by omega)]
        by_cases h0 : bcnt (cE E w nx s) (10 * fd) = 0
        · rw [if_pos (show nI (bcnt (cE E w nx s) (10 * fd)) = 0 by rw [h0]; rfl), pn_ck (by omega) (by omega), nI_clamp (by omega), nI_1, nI_1]
          refine ih (s + 1) n (m + 1) (sU q m s) _ (by omega) (by omega) (fun i hi => ?_) (fun i j hi hj hij => ?_) (fun t h3 h4 h5 => ?_) ?_ (fun i hi => ?_)
          · unfold sU
            by_cases hh : i = m
            · rw [if_pos hh]; exact ⟨by omega, hws, h0⟩
            · rw [if_neg hh]; exact ⟨by have := (hA i (by omega)).1; omega, (hA i (by omega)).2⟩
          · unfold sU at hij
            by_cases hh : i = m
            · by_cases hg : j = m
              · omega
              · rw [if_pos hh, if_neg hg] at hij
                have := (hA j (by omega)).1; omega
            · by_cases hg : j = m
              · rw [if_neg hh, if_pos hg] at hij
                have := (hA i (by omega)).1; omega
              · rw [if_neg hh, if_neg hg] at hij
                exact hB i j (by omega) (by omega) hij
          · by_cases hh : t = s
            · exact ⟨m, by omega, by unfold sU; rw [if_pos rfl, hh]⟩
            · obtain ⟨i, k1, k2⟩ := hC t (by omega) h4 h5
              exact ⟨i, by omega, by unfold sU; rw [if_neg (by omega)]; exact k2⟩
          · rw [hM]; simp only [bcnt, hws, h0, decide_true, Bool.and_self, if_true]
          · unfold upd sU
            by_cases hh : i = m
            · rw [if_pos hh, if_pos hh]
            · rw [if_neg hh, if_neg hh]; exact hq i (by omega)
        · rw [if_neg (zn0 h0 (by omega)), nI_1]
          exact hno (by rw [hws, decide_eq_false h0]; rfl)
  exact first fd 0 F 0 (fun _ => 0) qz (by omega) (by omega) (fun i hi => by omega) (fun i j hi => by omega) (fun t h => by omega) rfl (fun i hi => by omega)
theorem pk_wait {F g : Nat} (hg : g < 6) {s : Nat → Nat} (hb : pkB s) : m_X2_waitsIn F (lN (pkN s)) (nI g) = some (nI (b2n ((s 7).testBit g))) := by
  have hlt := pkN_lt hb
  obtain ⟨h0, h2, h3, h4, h6, h7, -⟩ := hb
  unfold m_X2_waitsIn
  rw [show (19 : Int32) + nI g = nI (19 + g) from nI_add 19 g, wb_shr (by omega) (by omega)]
  have e1 : pkN s / 2 ^ (19 + g) = (pkA s * 64 + s 7) / 2 ^ g := by
    rw [Nat.pow_add, ← Nat.div_div_eq_div_mul]
    congr 1
    unfold pkN
    generalize pkA s = A
    omega
  rw [e1]
  have hq : (pkA s * 64 + s 7) / 2 ^ g < 2 ^ 64 := Nat.lt_of_le_of_lt (Nat.div_le_self _ _) (by unfold pkN at hlt; omega)
  have e2 : lN ((pkA s * 64 + s 7) / 2 ^ g) &&& 1 = lN ((pkA s * 64 + s 7) / 2 ^ g % 2) := wb_mask (k := 1) hq (by decide)
  rw [e2]
  have e3 : (pkA s * 64 + s 7) / 2 ^ g % 2 = b2n ((s 7).testBit g) := by
    rw [Nat.testBit_eq_decide_div_mod_eq]
    unfold b2n
    generalize pkA s = A
    rcases (show g = 0 ∨ g = 1 ∨ g = 2 ∨ g = 3 ∨ g = 4 ∨ g = 5 by omega) with h | h | h | h | h | h <;> subst h <;> simp only [decide_eq_true_eq, Nat.reducePow] <;> split <;> omega
  rw [e3]
  cases (s 7).testBit g
  · rw [if_pos (show lg_cmp (lN (b2n false)) 0 = 0 by decide)]; rfl
  · rw [if_neg (show ¬ lg_cmp (lN (b2n true)) 0 = 0 by decide)]; rfl
