/-! both go through all states alike -/
theorem qX_any {X : Nat → Nat → Nat} {zQ zR : Int32 × Int32 × Int32 × Int32 × Int32 × Int32 × Int32 × Int32 × Int32 × Int32 × Int32} {kl be le mo ph me sh lo : Nat → Int32} (h : qX X zQ kl be le mo ph me sh lo) (h1 : zR.2.1 = nI (X 8 0)) (h2 : zR.2.2.1 = nI (X 8 1)) : qX X zR kl be le mo ph me sh lo := ⟨h1, h2, h.2.2⟩
theorem fault_le (X : Nat → Nat → Nat) (e : Nat) (s : Nat → Nat) : sFault X e s ≤ 4 := by
  unfold sFault sFl
  repeat' split
  all_goals omega
theorem pq_row {F : Nat} {X : Nat → Nat → Nat} {zQ : Int32 × Int32 × Int32 × Int32 × Int32 × Int32 × Int32 × Int32 × Int32 × Int32 × Int32} {kl be le mo ph me sh lo : Nat → Int32} (hF : 2000 ≤ F) (hX : xG X) (hq : qX X zQ kl be le mo ph me sh lo) {lim s n' : Nat} (hlim : lim ≤ 400) : ∀ (d e n : Nat) (D : BD) (q1 q4 q5 q6 q7 q10 q11 : Int32) (now kept st cf cb ld re : Nat → Int32), e + d = xE X → d < n → bW X lim D → qD D st cf cb → dNx X D ld s e → s < D.1 →
    ∃ q10' now' kept' st' cf' cb' ld' re', m_X7_prove_L73 F kl be le mo ph me sh lo (m_X7_prove_L63 F kl be le mo ph me sh lo n') n (nI lim) (nI s) (nI e) (q1, nI (X 8 0), nI (X 8 1), q4, q5, q6, q7, nI D.1, nI (xE X), q10, q11) now kept st cf cb ld re =
        (if (bRow X lim s d e D).1 = 1 then m_X7_prove_L63 F kl be le mo ph me sh lo n' (nI lim) (nI (s + 1)) (q1, nI (X 8 0), nI (X 8 1), q4, q5, q6, q7, nI (bRow X lim s d e D).2.2.1, nI (xE X), q10, q11) now' kept' st' cf' cb' ld' re else some (nI (bRow X lim s d e D).1, ((q1, nI (X 8 0), nI (X 8 1), q4, q5, q6, nI (bRow X lim s d e D).1, nI (bRow X lim s d e D).2.2.1, nI (xE X), q10', q11), now', kept', st', cf', cb', ld', re'))) ∧
      qD (bRow X lim s d e D).2.2 st' cf' cb' ∧ dNx X (bRow X lim s d e D).2.2 ld' s (bRow X lim s d e D).2.1 ∧ ((bRow X lim s d e D).1 = 1 → (bRow X lim s d e D).2.1 = xE X) ∧
      ((bRow X lim s d e D).1 = 0 → q10' = nI (dep (bRow X lim s d e D).2.2.2.2.1 400 s + 1) ∧ re' (dep (bRow X lim s d e D).2.2.2.2.1 400 s) = nI (bRow X lim s d e D).2.1 ∧ ∀ j, j < dep (bRow X lim s d e D).2.2.2.2.1 400 s → re' (dep (bRow X lim s d e D).2.2.2.2.1 400 s - 1 - j) = nI ((bRow X lim s d e D).2.2.2.2.2.1 (anc (bRow X lim s d e D).2.2.2.2.1 s j))) := by
  have hE := xE_le hX
  intro d
  induction d with
  | zero =>
    intro e n D q1 q4 q5 q6 q7 q10 q11 now kept st cf cb ld re he hn hw hd hx hs
    obtain ⟨n, rfl⟩ : ∃ m, n = m + 1 := ⟨n - 1, by omega⟩
    refine ⟨q10, now, kept, st, cf, cb, ld, re, ?_, hd, hx, fun _ => by show e = xE X; omega, fun h => absurd h n10⟩
    rw [u_X7_prove_L73, if_pos (show nI (xE X) ≤ nI e from nI_le (by omega) (by omega)), nI_1]; rfl
  | succ d ih =>
    intro e n D q1 q4 q5 q6 q7 q10 q11 now kept st cf cb ld re he hn hw hd hx hs
    obtain ⟨n, rfl⟩ : ∃ m, n = m + 1 := ⟨n - 1, by omega⟩
    have hfd : D.1 ≤ 400 := by have := hw.1.2; omega
    have hsv := hw.2.1 s hs
    have hgv := sV_go hX (e := e) hsv (by unfold xE at he; omega)
    have hq2 : qX X (q1, nI (X 8 0), nI (X 8 1), q4, q5, q6, q7, nI D.1, nI (xE X), q10, q11) kl be le mo ph me sh lo := qX_any hq rfl rfl
    obtain ⟨nw1, l1, l2⟩ := pq_load hF (q1, nI (X 8 0), nI (X 8 1), q4, q5, q6, q7, nI D.1, nI (xE X), q10, q11) now st (s := s) (by omega)
    obtain ⟨nw2, kp2, g1, g2⟩ := pq_go hF hX hq2 (e := e) (now := nw1) (kept := kept) hsv (by unfold xE at he; omega) (fun i hi => by rw [l2 i hi]; exact hd.1 s hs i hi)
    have hfl := fault_le X e (D.2.1 s)
    rw [u_X7_prove_L73, if_neg (show ¬ nI (xE X) ≤ nI e from nI_ge (by omega) (by omega)), l1, pn_bd, g1, pn_bd]
    by_cases hf : sFault X e (D.2.1 s) = 0
    · show ∃ q10' now' kept' st' cf' cb' ld' re', (if nI (sFault X e (D.2.1 s)) ≤ 0 then gk_bd (m_X7_find F _ nw2 st) _ else _) = _ ∧ _
      rw [if_pos (show nI (sFault X e (D.2.1 s)) ≤ 0 by rw [hf]; decide), pq_find hX hF hlim (D := D) (cf := cf) (cb := cb) rfl hw.1.2 hw.2.1 hd hgv g2, pn_bd]
      by_cases hj : fIdx D.2.1 D.1 (sGo X e (D.2.1 s)) < D.1
      · have hB : bRow X lim s (d + 1) e D = bRow X lim s d (e + 1) (bOld D s e (fIdx D.2.1 D.1 (sGo X e (D.2.1 s)))) := by
          show (if _ then _ else _) = _
          rw [if_pos hf, if_pos hj]
        have h0 : (0 : Int32) ≤ nI (fIdx D.2.1 D.1 (sGo X e (D.2.1 s))) := nI_pos' (by omega)
        rw [if_pos hj, hB, if_pos h0]
        unfold m_X7_prove_J133 m_X7_prove_J150
        rw [if_pos h0, show (10 : Int32) * nI s = nI (10 * s) from pk_mul 10 s, nI_add, pn_ck (by omega) (by omega), nI_clamp (by omega), nI_1]
        exact ih (e + 1) n (bOld D s e (fIdx D.2.1 D.1 (sGo X e (D.2.1 s)))) q1 q4 q5 q6 q7 q10 q11 nw2 kp2 st cf cb _ re (by omega) (by omega) (bW_old hw s e _) hd (dNx_upd hX hx hj) hs
      · rw [if_neg hj, if_neg (show ¬ (0 : Int32) ≤ -1 by decide)]
        by_cases hl : D.1 = lim
        · have hB : bRow X lim s (d + 1) e D = (2, e, D) := by
            show (if _ then _ else _) = _
            rw [if_pos hf, if_neg hj, if_pos hl]
          rw [hB, if_pos (show nI D.1 = nI lim by rw [hl])]
          exact ⟨q10, nw2, kp2, st, cf, cb, ld, re, rfl, hd, hx, fun h => absurd h n21, fun h => absurd h n20⟩
        · have hlt : D.1 < lim := by have := hw.1.2; omega
          have hB : bRow X lim s (d + 1) e D = bRow X lim s d (e + 1) (bNew X D s e) := by
            show (if _ then _ else _) = _
            rw [if_pos hf, if_neg hj, if_neg hl]
          have hno : ∀ j, j < D.1 → eq14 (D.2.1 j) (sGo X e (D.2.1 s)) = false := by
            rcases fIdx_spec D.2.1 D.1 (sGo X e (D.2.1 s)) with ⟨g1, _⟩ | ⟨_, g2⟩
            · exact absurd g1 hj
            · exact g2
          rw [hB, if_neg (show ¬ nI D.1 = nI lim from fun h => hl ((nI_eq (by omega) (by omega)).mp h))]
          unfold m_X7_prove_J133 m_X7_prove_J150
          obtain ⟨st', a1, a2, a3⟩ := pq_add hF q1 (nI (X 8 0)) (nI (X 8 1)) q4 q5 q6 q7 (nI (xE X)) q10 q11 (nI s) (nI e) nw2 st cf cb (fd := D.1) (by omega)
          rw [if_neg (show ¬ (0 : Int32) ≤ -1 by decide), a1, pn_bd, show (10 : Int32) * nI s = nI (10 * s) from pk_mul 10 s, nI_add, pn_ck (by omega) (by omega), nI_clamp (by omega), nI_1]
          refine ih (e + 1) n (bNew X D s e) q1 q4 q5 q6 q7 q10 q11 nw2 kp2 st' _ _ _ re (by omega) (by omega) (bW_new hX hw hs (by omega) hf hno hlt) ⟨fun i hi k hk => ?_, fun i hi => ?_⟩ (fun s' e' he' hcc => ?_) (show s < D.1 + 1 by omega)
          · have hi : i < D.1 + 1 := hi
            show st' (14 * i + k) = nI ((if i = D.1 then sGo X e (D.2.1 s) else D.2.1 i) k)
            by_cases hh : i = D.1
            · rw [if_pos hh, hh, a2 k hk]; exact g2 k hk
            · rw [if_neg hh, a3 _ (by omega)]; exact hd.1 i (by omega) k hk
          · have hi : i < D.1 + 1 := hi
            show upd cf D.1 _ i = nI (sU D.2.2.1 D.1 s i) ∧ upd cb D.1 _ i = nI (sU D.2.2.2.1 D.1 e i)
            unfold upd sU
            by_cases hh : i = D.1
            · simp only [hh, if_true, and_self]
            · simp only [hh, if_false]; exact hd.2 i (by omega)
          · show upd ld (10 * s + e) (nI D.1) (10 * s' + e') = nI (sU D.2.2.2.2 (10 * s + e) D.1 (10 * s' + e')) ∧ sU D.2.2.2.2 (10 * s + e) D.1 (10 * s' + e') < D.1 + 1
            unfold upd sU
            by_cases hh : 10 * s' + e' = 10 * s + e
            · simp only [hh, if_true]; exact ⟨trivial, by omega⟩
            · simp only [hh, if_false]
              have : ld (10 * s' + e') = nI (D.2.2.2.2 (10 * s' + e')) ∧ D.2.2.2.2 (10 * s' + e') < D.1 := by
                rcases hcc with hcc | ⟨hcc, hcc2⟩
                · exact hx s' e' he' (Or.inl hcc)
                · exact hx s' e' he' (Or.inr ⟨hcc, by omega⟩)
              exact ⟨this.1, by omega⟩
    · have hB : bRow X lim s (d + 1) e D = (0, e, D) := by
        show (if _ then _ else _) = _
        rw [if_neg hf]
      show ∃ q10' now' kept' st' cf' cb' ld' re', (if nI (sFault X e (D.2.1 s)) ≤ 0 then _ else gk_bd (m_X7_tellRow F (nI s) (nI e) (q1, nI (X 8 0), nI (X 8 1), q4, q5, q6, q7, nI D.1, nI (xE X), q10, q11) cf cb re) _) = _ ∧ _
      obtain ⟨re', t1, t2, t3⟩ := pq_tell hF (par := D.2.2.1) (evt := D.2.2.2.1) hfd (fun i h1 h2 => (hw.2.2.2.2 i h1 h2).1) hd.2 q1 (nI (X 8 0)) (nI (X 8 1)) q4 q5 q6 q7 (nI D.1) (nI (xE X)) q10 q11 (nI e) re hs
      rw [hB, if_neg (nI_nle (by omega) (by omega)), t1, pn_bd]
      exact ⟨_, nw2, kp2, st, cf, cb, ld, re', rfl, hd, hx, fun h => absurd h n01, fun _ => ⟨rfl, t2, t3⟩⟩
theorem bRow_code {X : Nat → Nat → Nat} {lim s : Nat} : ∀ {d e : Nat} {D : BD}, (bRow X lim s d e D).1 ≤ 2 := by
  intro d
  induction d with
  | zero => intro e D; exact (by decide : (1 : Nat) ≤ 2)
  | succ d ih =>
    intro e D
    unfold bRow
    repeat' split
    all_goals first | exact ih | exact (by decide : (2 : Nat) ≤ 2) | exact (by decide : (0 : Nat) ≤ 2)
theorem dNx_to {X : Nat → Nat → Nat} {D : BD} {nx : Nat → Int32} {s e e' : Nat} (h : dNx X D nx s e) (he : e = e') : dNx X D nx s e' := he ▸ h
theorem dNx_next {X : Nat → Nat → Nat} {D : BD} {nx : Nat → Int32} {s : Nat} (h : dNx X D nx s (xE X)) : dNx X D nx (s + 1) 0 := fun s' e' he' hc => by
  rcases hc with hc | ⟨_, hc⟩
  · by_cases hh : s' = s
    · exact h s' e' he' (Or.inr ⟨hh, he'⟩)
    · exact h s' e' he' (Or.inl (by omega))
  · omega
theorem pq_all {F : Nat} {X : Nat → Nat → Nat} {zQ : Int32 × Int32 × Int32 × Int32 × Int32 × Int32 × Int32 × Int32 × Int32 × Int32 × Int32} {kl be le mo ph me sh lo : Nat → Int32} (hF : 2000 ≤ F) (hX : xG X) (hq : qX X zQ kl be le mo ph me sh lo) {lim : Nat} (hlim : lim ≤ 400) : ∀ (m n s : Nat) (D : BD) (q1 q4 q5 q6 q7 q10 q11 : Int32) (now kept st cf cb ld re : Nat → Int32), lim + 1 ≤ s + m → m ≤ n → s ≤ D.1 → bW X lim D → qD D st cf cb → dNx X D ld s 0 →
    ∃ q10' now' kept' st' cf' cb' ld' re', m_X7_prove_L63 F kl be le mo ph me sh lo n (nI lim) (nI s) (q1, nI (X 8 0), nI (X 8 1), q4, q5, q6, q7, nI D.1, nI (xE X), q10, q11) now kept st cf cb ld re =
        some (nI (bAll X lim m s D).1, ((q1, nI (X 8 0), nI (X 8 1), q4, q5, q6, nI (bAll X lim m s D).1, nI (bAll X lim m s D).2.2.2.1, nI (xE X), q10', q11), now', kept', st', cf', cb', ld', re')) ∧
      bW X lim (bAll X lim m s D).2.2.2 ∧ qD (bAll X lim m s D).2.2.2 st' cf' cb' ∧ ((bAll X lim m s D).1 = 1 → dNx X (bAll X lim m s D).2.2.2 ld' (bAll X lim m s D).2.2.2.1 0) ∧ (bAll X lim m s D).1 ≤ 2 ∧
      ((bAll X lim m s D).1 = 0 → (bAll X lim m s D).2.1 < (bAll X lim m s D).2.2.2.1 ∧ q10' = nI (dep (bAll X lim m s D).2.2.2.2.2.1 400 (bAll X lim m s D).2.1 + 1) ∧ re' (dep (bAll X lim m s D).2.2.2.2.2.1 400 (bAll X lim m s D).2.1) = nI (bAll X lim m s D).2.2.1 ∧ ∀ j, j < dep (bAll X lim m s D).2.2.2.2.2.1 400 (bAll X lim m s D).2.1 → re' (dep (bAll X lim m s D).2.2.2.2.2.1 400 (bAll X lim m s D).2.1 - 1 - j) = nI ((bAll X lim m s D).2.2.2.2.2.2.1 (anc (bAll X lim m s D).2.2.2.2.2.1 (bAll X lim m s D).2.1 j))) := by
  have hE := xE_le hX
  intro m
  induction m with
  | zero => intro n s D q1 q4 q5 q6 q7 q10 q11 now kept st cf cb ld re h1 _ h2 hw; have := hw.1.2; omega
  | succ m ih =>
    intro n s D q1 q4 q5 q6 q7 q10 q11 now kept st cf cb ld re h1 hn h2 hw hd hx
    obtain ⟨n, rfl⟩ : ∃ k, n = k + 1 := ⟨n - 1, by omega⟩
    have hfd : D.1 ≤ 400 := by have := hw.1.2; omega
    rw [u_X7_prove_L63]
    by_cases hs : s < D.1
    · rw [if_neg (show ¬ nI D.1 ≤ nI s from nI_ge hs (by omega))]
      obtain ⟨q10', now', kept', st', cf', cb', ld', re', e1, g2, g3, g4, g5⟩ := pq_row hF hX hq (lim := lim) (s := s) (n' := n) hlim (xE X) 0 F D q1 q4 q5 q6 q7 q10 q11 now kept st cf cb ld re (by omega) (by omega) hw hd hx hs
      obtain ⟨w1, w2⟩ := bRow_W hX (lim := lim) (s := s) (d := xE X) (e := 0) (by omega) hw hs
      show ∃ q10' now' kept' st' cf' cb' ld' re', m_X7_prove_L73 F kl be le mo ph me sh lo (m_X7_prove_L63 F kl be le mo ph me sh lo n) F (nI lim) (nI s) (nI 0) _ now kept st cf cb ld re = _ ∧ _
      rw [e1]
      by_cases hc : (bRow X lim s (xE X) 0 D).1 = 1
      · have hB : bAll X lim (m + 1) s D = bAll X lim m (s + 1) (bRow X lim s (xE X) 0 D).2.2 := by
          show (if _ then _ else _) = _
          rw [if_pos hs, if_pos hc]
        rw [if_pos hc, hB]
        have g3 : dNx X (bRow X lim s (xE X) 0 D).2.2 ld' s (xE X) := dNx_to g3 (g4 hc)
        exact ih n (s + 1) _ q1 q4 q5 q6 q7 q10 q11 now' kept' st' cf' cb' ld' re (by omega) (by omega) (by omega) w1 g2 (dNx_next g3)
      · have hB : bAll X lim (m + 1) s D = ((bRow X lim s (xE X) 0 D).1, s, (bRow X lim s (xE X) 0 D).2.1, (bRow X lim s (xE X) 0 D).2.2) := by
          show (if _ then _ else _) = _
          rw [if_pos hs, if_neg hc]
        rw [if_neg hc, hB]
        exact ⟨q10', now', kept', st', cf', cb', ld', re', rfl, w1, g2, fun h => absurd h hc, bRow_code, fun h => ⟨by show s < (bRow X lim s (xE X) 0 D).2.2.1; omega, g5 h⟩⟩
    · have hB : bAll X lim (m + 1) s D = (1, s, 0, D) := by
        show (if _ then _ else _) = _
        rw [if_neg hs]
      rw [if_pos (show nI D.1 ≤ nI s from nI_le (by omega) (by omega)), hB]
      refine ⟨q10, now, kept, st, cf, cb, ld, re, rfl, hw, hd, fun _ => ?_, (by decide : (1 : Nat) ≤ 2), fun h => absurd h n10⟩
      show dNx X D ld D.1 0
      have : s = D.1 := by omega
      rw [← this]; exact hx
theorem pc_all {F : Nat} {X : Nat → Nat → Nat} {zX : Int32 × Int32} {cl be le mo ph me sh lo : Nat → Int32} (hF : 2000 ≤ F) (hX : xG X) (hc : cX X zX cl be le mo ph me sh lo) {lim : Nat} (hlim : lim ≤ 400) : ∀ (m n s : Nat) (D : BD) (z3 z4 z5 : Int32) (z6 : Int64) (lw : Nat → Int32) (zm : Int32 × Int32 × Int32 × Int32 × Int32 × Int32 × Int32 × Int32) (za nx gu gd gq : Nat → Int32) (ks : Nat → Int64) (pa ev sl path : Nat → Int32), lim + 1 ≤ s + m → m < n → s ≤ D.1 → bW X lim D → cD D (nI D.1) ks pa ev sl → dNx X D nx s 0 →
    ∃ z3' z4' z5' z6' zm' za' nx' ks' pa' ev' sl' path', m_X4_search_L32 F zX cl be le mo ph me sh lo n (nI lim) (nI s) (nI D.1, nI 1, z3, z4, z5, z6) lw zm za nx gu gd gq ks pa ev sl path =
        m_X4_search_J72 F zX cl be le mo ph me sh lo (nI (bAll X lim m s D).2.2.2.1, nI (bAll X lim m s D).1, z3', z4', z5', z6') lw zm' za' nx' gu gd gq ks' pa' ev' sl' path' ∧
      cD (bAll X lim m s D).2.2.2 (nI (bAll X lim m s D).2.2.2.1) ks' pa' ev' sl' ∧ ((bAll X lim m s D).1 = 1 → dNx X (bAll X lim m s D).2.2.2 nx' (bAll X lim m s D).2.2.2.1 0) ∧
      ((bAll X lim m s D).1 = 0 → (bAll X lim m s D).2.2.1 < xE X ∧ sFault X (bAll X lim m s D).2.2.1 ((bAll X lim m s D).2.2.2.2.1 (bAll X lim m s D).2.1) ≠ 0 ∧ z3' = nI (dep (bAll X lim m s D).2.2.2.2.2.1 400 (bAll X lim m s D).2.1) ∧ z4' = nI (bAll X lim m s D).2.2.1 ∧ z5' = nI (sFault X (bAll X lim m s D).2.2.1 ((bAll X lim m s D).2.2.2.2.1 (bAll X lim m s D).2.1)) ∧ z6' = lN (pkN (sGo X (bAll X lim m s D).2.2.1 ((bAll X lim m s D).2.2.2.2.1 (bAll X lim m s D).2.1))) ∧ ∀ j, j < dep (bAll X lim m s D).2.2.2.2.2.1 400 (bAll X lim m s D).2.1 → path' j = nI (anc (bAll X lim m s D).2.2.2.2.2.1 (bAll X lim m s D).2.1 j)) := by
  have hE := xE_le hX
  intro m
  induction m with
  | zero => intro n s D z3 z4 z5 z6 lw zm za nx gu gd gq ks pa ev sl path h1 _ h2 hw; have := hw.1.2; omega
  | succ m ih =>
    intro n s D z3 z4 z5 z6 lw zm za nx gu gd gq ks pa ev sl path h1 hn h2 hw hd hx
    obtain ⟨n, rfl⟩ : ∃ k, n = k + 1 := ⟨n - 1, by omega⟩
    have hfd : D.1 ≤ 400 := by have := hw.1.2; omega
    have hle := hw.1.2
    by_cases hs : s < D.1
    · rw [u_X4_search_L32, if_neg (nI_ge (by omega) (by omega)), if_neg (show ¬ (nI D.1, nI 1, z3, z4, z5, z6).1 ≤ nI s from nI_ge hs (by omega)), if_pos (show (nI D.1, nI 1, z3, z4, z5, z6).2.1 = 1 from rfl)]
      obtain ⟨z3', z4', z5', z6', zm', za', nx', ks', pa', ev', sl', path', e1, g1, g2, g3, g4, g5, g6⟩ := pc_row hF hX hc (lim := lim) (s := s) hlim (xE X) 0 F D (nI 1) z3 z4 z5 z6 zm za nx ks pa ev sl path (by omega) (by omega) hw hd hx hs
      obtain ⟨w1, w2⟩ := bRow_W hX (lim := lim) (s := s) (d := xE X) (e := 0) (by omega) hw hs
      unfold m_X4_expand
      show ∃ z3' z4' z5' z6' zm' za' nx' ks' pa' ev' sl' path', gk_bd (m_X4_expand_L2 F zX cl be le mo ph me sh lo F (nI s) (nI lim) (nI 0) _ zm za nx ks pa ev sl path) _ = _ ∧ _
      rw [e1, pn_bd, nI_1]
      by_cases hc1 : (bRow X lim s (xE X) 0 D).1 = 1
      · have hB : bAll X lim (m + 1) s D = bAll X lim m (s + 1) (bRow X lim s (xE X) 0 D).2.2 := by
          show (if _ then _ else _) = _
          rw [if_pos hs, if_pos hc1]
        rw [hB]
        have g2 : dNx X (bRow X lim s (xE X) 0 D).2.2 nx' s (xE X) := dNx_to g2 (g4 hc1)
        have := ih n (s + 1) (bRow X lim s (xE X) 0 D).2.2 z3' z4' z5' z6' lw zm' za' nx' gu gd gq ks' pa' ev' sl' path' (by omega) (by omega) (by omega) w1 g1 (dNx_next g2)
        show ∃ z3'' z4'' z5'' z6'' zm'' za'' nx'' ks'' pa'' ev'' sl'' path'', m_X4_search_L32 F zX cl be le mo ph me sh lo n (nI lim) (nI (s + 1)) (nI (bRow X lim s (xE X) 0 D).2.2.1, nI (bRow X lim s (xE X) 0 D).1, z3', z4', z5', z6') lw zm' za' nx' gu gd gq ks' pa' ev' sl' path' = _ ∧ _
        rw [hc1]
        exact this
      · have hB : bAll X lim (m + 1) s D = ((bRow X lim s (xE X) 0 D).1, s, (bRow X lim s (xE X) 0 D).2.1, (bRow X lim s (xE X) 0 D).2.2) := by
          show (if _ then _ else _) = _
          rw [if_pos hs, if_neg hc1]
        rw [hB]
        obtain ⟨n, rfl⟩ : ∃ k, n = k + 1 := ⟨n - 1, by omega⟩
        refine ⟨z3', z4', z5', z6', zm', za', nx', ks', pa', ev', sl', path', ?_, g1, fun h => absurd h hc1, g6⟩
        show m_X4_search_L32 F zX cl be le mo ph me sh lo (n + 1) (nI lim) (nI (s + 1)) (nI (bRow X lim s (xE X) 0 D).2.2.1, nI (bRow X lim s (xE X) 0 D).1, z3', z4', z5', z6') lw zm' za' nx' gu gd gq ks' pa' ev' sl' path' = _
        have hcl : (bRow X lim s (xE X) 0 D).1 ≤ 2 := bRow_code
        rw [u_X4_search_L32]
        split
        · rfl
        · split
          · rfl
          · rw [if_neg (show ¬ (nI (bRow X lim s (xE X) 0 D).2.2.1, nI (bRow X lim s (xE X) 0 D).1, z3', z4', z5', z6').2.1 = 1 from fun h => hc1 ((nI_eq (b := 1) (by omega) (by omega)).mp h))]
    · have hB : bAll X lim (m + 1) s D = (1, s, 0, D) := by
        show (if _ then _ else _) = _
        rw [if_neg hs]
      rw [hB]
      refine ⟨z3, z4, z5, z6, zm, za, nx, ks, pa, ev, sl, path, ?_, hd, fun _ => ?_, fun h => absurd h n10⟩
      · rw [u_X4_search_L32]
        split
        · rfl
        · rw [if_pos (show (nI D.1, nI 1, z3, z4, z5, z6).1 ≤ nI s from nI_le (by omega) (by omega))]
      · show dNx X D nx D.1 0
        have : s = D.1 := by omega
        rw [← this]; exact hx
