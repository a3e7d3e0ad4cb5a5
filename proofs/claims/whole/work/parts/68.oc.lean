/-! the shortest row of events -/
theorem anc_dep {par : Nat → Nat} {fd : Nat} (hp : ∀ i, 1 ≤ i → i < fd → par i < i) (hfd : fd ≤ 400) {s : Nat} (hs : s < fd) : ∀ j, j ≤ dep par 400 s → anc par s j < fd ∧ dep par 400 (anc par s j) + j = dep par 400 s
  | 0, _ => ⟨hs, rfl⟩
  | j + 1, h => by
    obtain ⟨h1, h2⟩ := anc_dep hp hfd hs j (by omega)
    have h3 : 0 < anc par s j := by
      rcases Nat.eq_zero_or_pos (anc par s j) with h4 | h4
      · rw [h4, dep_zero] at h2; omega
      · exact h4
    have h5 := dep_step hp hfd h3 h1
    have h6 := hp _ h3 h1
    exact ⟨by show par (anc par s j) < fd; omega, by show dep par 400 (par (anc par s j)) + (j + 1) = _; omega⟩
theorem anc_end {par : Nat → Nat} {fd : Nat} (hp : ∀ i, 1 ≤ i → i < fd → par i < i) (hfd : fd ≤ 400) {s : Nat} (hs : s < fd) : anc par s (dep par 400 s) = 0 := by
  obtain ⟨h1, h2⟩ := anc_dep hp hfd hs _ (Nat.le_refl _)
  rcases Nat.eq_zero_or_pos (anc par s (dep par 400 s)) with h4 | h4
  · exact h4
  · have := dep_step hp hfd h4 h1; omega
theorem anc_pos {par : Nat → Nat} {fd : Nat} (hp : ∀ i, 1 ≤ i → i < fd → par i < i) (hfd : fd ≤ 400) {s : Nat} (hs : s < fd) {j : Nat} (hj : j < dep par 400 s) : 1 ≤ anc par s j := by
  obtain ⟨h1, h2⟩ := anc_dep hp hfd hs j (by omega)
  rcases Nat.eq_zero_or_pos (anc par s j) with h4 | h4
  · rw [h4, dep_zero] at h2; omega
  · exact h4
def rwV (X : Nat → Nat → Nat) (t : Nat → Nat) (f e : Nat) : Nat → Nat
  | 0 => e
  | 1 => t 0
  | 2 => t 1
  | 3 => sLit X t
  | 4 => t 3
  | 5 => t 7
  | _ => f
theorem pc_rowJ {F : Nat} {X : Nat → Nat → Nat} {zX : Int32 × Int32} {cl be le mo ph me sh lo : Nat → Int32} (hF : 2000 ≤ F) (hX : xG X) (hc : cX X zX cl be le mo ph me sh lo) {t : Nat → Nat} (ht : sV X t) {w : Nat} (h1 : 1 ≤ w) (h5 : w ≤ 5) (f e : Nat) (zP : Int32 × Int32 × Int32 × Int32 × Int32 × Int64) (ks : Nat → Int64) (ev path : Nat → Int32) (zm : Int32 × Int32 × Int32 × Int32 × Int32 × Int32 × Int32 × Int32) (za : Nat → Int32) : ∃ zm' za', m_X4_rowEntry_J132 F zP zX me ks ev path (nI w) (lN (pkN t)) zm za = some (nI (rwV X t f e w), (zm', za')) := by
  have hb := sV_b hX ht
  have h4 := hb.1
  have h6 := hb.2.2.2.2.2.2.2.2.2.2.2.2.1
  obtain ⟨zm', za', g1, g2⟩ := pc_unpack hF zm za hb
  obtain ⟨⟨bg, cs, e1⟩, hag⟩ := id g2
  unfold m_X4_rowEntry_J132 m_X4_lookFor m_X2_look
  rw [g1, pn_bd]
  refine ⟨zm', za', ?_⟩
  have hw : w = 1 ∨ w = 2 ∨ w = 3 ∨ w = 4 ∨ w = 5 := by omega
  rcases hw with rfl | rfl | rfl | rfl | rfl
  · show some (zm'.1 / nI 5, (zm', za')) = some (nI (t 0), (zm', za'))
    rw [e1]
    show some (nI (5 * t 0 + t 1) / nI 5, _) = _
    rw [pk_div (by omega) (by omega) (by omega), show (5 * t 0 + t 1) / 5 = t 0 by omega]
  · show some (zm'.1 - zm'.1 / nI 5 * nI 5, (zm', za')) = some (nI (t 1), (zm', za'))
    rw [e1]
    show some (nI (5 * t 0 + t 1) - nI (5 * t 0 + t 1) / nI 5 * nI 5, _) = _
    rw [pk_rem (by omega) (by omega) (by omega), show (5 * t 0 + t 1) % 5 = t 1 by omega]
  · show gk_bd (gk_bd (m_X2_lit F zm' zX me) (fun v8 => some v8)) (fun v3 => some (v3, (zm', za'))) = some (nI (sLit X t), (zm', za'))
    rw [lit_c hF hX hc ht g2, pn_bd, pn_bd]
  · show some (zm'.2.2.1, (zm', za')) = some (nI (t 3), (zm', za'))
    rw [e1]
  · show some (zm'.2.2.2.2.2.1, (zm', za')) = some (nI (t 7), (zm', za'))
    rw [e1]
theorem pc_row6 {F : Nat} {X : Nat → Nat → Nat} {zX : Int32 × Int32} {cl be le mo ph me sh lo : Nat → Int32} (hF : 2000 ≤ F) (hX : xG X) (hc : cX X zX cl be le mo ph me sh lo) {t : Nat → Nat} (ht : sV X t) {w : Nat} (h6 : w ≤ 6) {f e : Nat} (zP : Int32 × Int32 × Int32 × Int32 × Int32 × Int64) {ks : Nat → Int64} {ev : Nat → Int32} (path : Nat → Int32) (zm : Int32 × Int32 × Int32 × Int32 × Int32 × Int32 × Int32 × Int32) (za : Nat → Int32) (y : Nat) (x : Nat) (hx : (x = 0 ∧ y < 400 ∧ ks y = lN (pkN t) ∧ ev y = nI e ∧ f = 0) ∨ (x = 1 ∧ zP.2.2.2.1 = nI e ∧ zP.2.2.2.2.1 = nI f ∧ zP.2.2.2.2.2 = lN (pkN t))) : ∃ zm' za', m_X4_rowEntry_J66 F zP zX me ks ev path (nI w) (nI x) (nI y) zm za = some (nI (rwV X t f e w), (zm', za')) := by
  unfold m_X4_rowEntry_J66
  have hw : w = 0 ∨ w = 6 ∨ (1 ≤ w ∧ w ≤ 5) := by omega
  rcases hw with rfl | rfl | hw
  · rw [if_pos (show nI 0 = 0 from rfl)]
    rcases hx with ⟨rfl, h1, h2, h3, rfl⟩ | ⟨rfl, h1, h2, h3⟩
    · rw [if_pos (show nI 0 = 0 from rfl), pn_ck h1 (by omega), nI_clamp (by omega), h3]
      exact ⟨_, _, rfl⟩
    · rw [if_neg (show ¬ nI 1 = 0 by decide), h1]
      exact ⟨_, _, rfl⟩
  · rw [if_neg (show ¬ nI 6 = 0 by decide), if_pos (show nI 6 = 6 from rfl)]
    rcases hx with ⟨rfl, h1, h2, h3, rfl⟩ | ⟨rfl, h1, h2, h3⟩
    · rw [if_pos (show nI 0 = 0 from rfl)]
      exact ⟨_, _, rfl⟩
    · rw [if_neg (show ¬ nI 1 = 0 by decide), h2]
      exact ⟨_, _, rfl⟩
  · rw [if_neg (show ¬ nI w = 0 from zn0 (by omega) (by omega)), if_neg (show ¬ nI w = 6 from fun h => by have := (nI_eq (b := 6) (by omega) (by omega)).mp h; omega)]
    rcases hx with ⟨rfl, h1, h2, h3, rfl⟩ | ⟨rfl, h1, h2, h3⟩
    · rw [if_pos (show nI 0 = 0 from rfl), pn_ck h1 (by omega), nI_clamp (by omega), h2]
      exact pc_rowJ hF hX hc ht hw.1 hw.2 _ _ _ _ _ _ _ _
    · rw [if_neg (show ¬ nI 1 = 0 by decide), h3]
      exact pc_rowJ hF hX hc ht hw.1 hw.2 _ _ _ _ _ _ _ _
theorem op_row {F : Nat} (hF : 2000 ≤ F) {zS : Int32} {zX : Int32 × Int32} {zX_clashing : Nat → Int32} {zX_between : Nat → Int32} {zX_leastTimes : Nat → Int32} {zX_mostTimes : Nat → Int32} {zX_phases : Nat → Int32} {zX_members : Nat → Int32} {zX_shortest : Nat → Int32} {zX_longestTimes : Nat → Int32} {zS_text : Int32 × Int32} {zS_text_signs : Nat → Int32} {zS_text_members : Nat → Int32} {zS_text_shortest : Nat → Int32} {zS_text_longestTimes : Nat → Int32} {zS_diary : Int32} {zS_diary_seconds : Nat → Int32} {zS_diary_events : Nat → Int32} {zS_machine : Int32 × Int32 × Int32 × Int32 × Int32 × Int32 × Int32 × Int32} {zS_machine_ages : Nat → Int32} {zS_trial : Int32 × Int32 × Int32 × Int32 × Int32 × Int32 × Int32 × Int32} {zS_trial_ages : Nat → Int32} {zS_proof : Int32 × Int32 × Int32 × Int32 × Int32 × Int64} {zS_proof_longestWaits : Nat → Int32} {zS_proof_machine : Int32 × Int32 × Int32 × Int32 × Int32 × Int32 × Int32 × Int32} {zS_proof_machine_ages : Nat → Int32} {zS_proof_graph_nexts : Nat → Int32} {zS_proof_graph_unfollowed : Nat → Int32} {zS_proof_graph_depths : Nat → Int32} {zS_proof_graph_queue : Nat → Int32} {zS_proof_keys : Nat → Int64} {zS_proof_parents : Nat → Int32} {zS_proof_events : Nat → Int32} {zS_proof_slots : Nat → Int32} {zS_proof_path : Nat → Int32} {zQ : Int32 × Int32 × Int32 × Int32 × Int32 × Int32 × Int32 × Int32 × Int32 × Int32 × Int32} {zQ_clashes : Nat → Int32} {zQ_between : Nat → Int32} {zQ_least : Nat → Int32} {zQ_most : Nat → Int32} {zQ_phases : Nat → Int32} {zQ_groups : Nat → Int32} {zQ_shortest : Nat → Int32} {zQ_longestOf : Nat → Int32} {zQ_text : Nat → Int32} {zQ_tellSecond : Nat → Int32} {zQ_tellEvent : Nat → Int32} {zQ_machine : Nat → Int32} {zQ_now : Nat → Int32} {zQ_kept : Nat → Int32} {zQ_states : Nat → Int32} {zQ_cameFrom : Nat → Int32} {zQ_cameBy : Nat → Int32} {zQ_leads : Nat → Int32} {zQ_rowEvents : Nat → Int32} {zQ_waits : Nat → Int32} (h : INV zS zX zX_clashing zX_between zX_leastTimes zX_mostTimes zX_phases zX_members zX_shortest zX_longestTimes zS_text zS_text_signs zS_text_members zS_text_shortest zS_text_longestTimes zS_diary zS_diary_seconds zS_diary_events zS_machine zS_machine_ages zS_trial zS_trial_ages zS_proof zS_proof_longestWaits zS_proof_machine zS_proof_machine_ages zS_proof_graph_nexts zS_proof_graph_unfollowed zS_proof_graph_depths zS_proof_graph_queue zS_proof_keys zS_proof_parents zS_proof_events zS_proof_slots zS_proof_path zQ zQ_clashes zQ_between zQ_least zQ_most zQ_phases zQ_groups zQ_shortest zQ_longestOf zQ_text zQ_tellSecond zQ_tellEvent zQ_machine zQ_now zQ_kept zQ_states zQ_cameFrom zQ_cameBy zQ_leads zQ_rowEvents zQ_waits) (a b : Int32) : ∃ r zm' za' zQ' now' kept', m_X6_row F a b zS zX zX_members zS_proof zS_proof_machine zS_proof_machine_ages zS_proof_keys zS_proof_events zS_proof_path = some (r, (zm', za')) ∧ m_X7_row F a b zQ zQ_clashes zQ_between zQ_least zQ_most zQ_phases zQ_groups zQ_shortest zQ_longestOf zQ_now zQ_kept zQ_rowEvents = some (r, (zQ', now', kept')) ∧ INV zS zX zX_clashing zX_between zX_leastTimes zX_mostTimes zX_phases zX_members zX_shortest zX_longestTimes zS_text zS_text_signs zS_text_members zS_text_shortest zS_text_longestTimes zS_diary zS_diary_seconds zS_diary_events zS_machine zS_machine_ages zS_trial zS_trial_ages zS_proof zS_proof_longestWaits zm' za' zS_proof_graph_nexts zS_proof_graph_unfollowed zS_proof_graph_depths zS_proof_graph_queue zS_proof_keys zS_proof_parents zS_proof_events zS_proof_slots zS_proof_path zQ' zQ_clashes zQ_between zQ_least zQ_most zQ_phases zQ_groups zQ_shortest zQ_longestOf zQ_text zQ_tellSecond zQ_tellEvent zQ_machine now' kept' zQ_states zQ_cameFrom zQ_cameBy zQ_leads zQ_rowEvents zQ_waits := by
  obtain ⟨X, tx, un, tc, ts, te, s, pv, fs, fe, D, hX, hc, hq, hT, hD, hM, hP⟩ := h
  obtain ⟨q1, q2, q3, q4, q5, q6, q7, q8, q9, q10, q11⟩ := zQ
  obtain ⟨z1, z2, z3, z4, z5, z6⟩ := zS_proof
  have hI : ∀ zm' za' now' kept', INV zS zX zX_clashing zX_between zX_leastTimes zX_mostTimes zX_phases zX_members zX_shortest zX_longestTimes zS_text zS_text_signs zS_text_members zS_text_shortest zS_text_longestTimes zS_diary zS_diary_seconds zS_diary_events zS_machine zS_machine_ages zS_trial zS_trial_ages ((z1, z2, z3, z4, z5, z6)) zS_proof_longestWaits zm' za' zS_proof_graph_nexts zS_proof_graph_unfollowed zS_proof_graph_depths zS_proof_graph_queue zS_proof_keys zS_proof_parents zS_proof_events zS_proof_slots zS_proof_path ((0, q2, q3, q4, q5, q6, q7, q8, q9, q10, q11)) zQ_clashes zQ_between zQ_least zQ_most zQ_phases zQ_groups zQ_shortest zQ_longestOf zQ_text zQ_tellSecond zQ_tellEvent zQ_machine now' kept' zQ_states zQ_cameFrom zQ_cameBy zQ_leads zQ_rowEvents zQ_waits := fun zm' za' now' kept' => ⟨X, tx, un, tc, ts, te, s, pv, fs, fe, D, hX, hc, hq, hT, hD, hM, hP⟩
  unfold m_X6_row m_X4_rowEntry m_X7_row
  have hno : ∃ r zm' za' zQ' now' kept', gk_bd (some ((-1 : Int32), (zS_proof_machine, zS_proof_machine_ages))) (fun v1 => some (v1.1, (v1.2.1, v1.2.2))) = some (r, (zm', za')) ∧ some ((-1 : Int32), (((0 : Int32), q2, q3, q4, q5, q6, q7, q8, q9, q10, q11), zQ_now, zQ_kept)) = some (r, (zQ', now', kept')) ∧ INV zS zX zX_clashing zX_between zX_leastTimes zX_mostTimes zX_phases zX_members zX_shortest zX_longestTimes zS_text zS_text_signs zS_text_members zS_text_shortest zS_text_longestTimes zS_diary zS_diary_seconds zS_diary_events zS_machine zS_machine_ages zS_trial zS_trial_ages ((z1, z2, z3, z4, z5, z6)) zS_proof_longestWaits zm' za' zS_proof_graph_nexts zS_proof_graph_unfollowed zS_proof_graph_depths zS_proof_graph_queue zS_proof_keys zS_proof_parents zS_proof_events zS_proof_slots zS_proof_path zQ' zQ_clashes zQ_between zQ_least zQ_most zQ_phases zQ_groups zQ_shortest zQ_longestOf zQ_text zQ_tellSecond zQ_tellEvent zQ_machine now' kept' zQ_states zQ_cameFrom zQ_cameBy zQ_leads zQ_rowEvents zQ_waits := ⟨_, _, _, _, _, _, rfl, rfl, hI _ _ _ _⟩
  by_cases hpv : pv = 0
  · subst hpv
    rcases id hP with ⟨h, -⟩ | ⟨-, hp, h1, h2, h3, h4, h5, ⟨lim, hl, hw⟩, hcd, hqd, -, h6⟩
    · exact absurd h (by decide)
    obtain ⟨k1, k2, k3, k4, k5, k6, k7, k8, k9, k10, k11⟩ := h6 rfl
    obtain rfl : z2 = nI 0 := h2
    obtain rfl : z3 = nI (dep D.2.2.1 400 fs) := k4
    obtain rfl : q7 = nI 0 := h3
    obtain rfl : q10 = nI (dep D.2.2.1 400 fs + 1) := k9
    have hE := xE_le hX
    have hdl := hw.1.2
    have hpar : ∀ i, 1 ≤ i → i < D.1 → D.2.2.1 i < i := fun i h1 h2 => (hw.2.2.2.2 i h1 h2).1
    have hdp := dep_le hpar (by omega) fs k1
    rw [if_pos (show (z1, nI 0, nI (dep D.2.2.1 400 fs), z4, z5, z6).2.1 = 0 from rfl), if_pos (show (q1, q2, q3, q4, q5, q6, nI 0, q8, q9, nI (dep D.2.2.1 400 fs + 1), q11).2.2.2.2.2.2.1 = 0 from rfl)]
    rcases pk_ix a (n := dep D.2.2.1 400 fs + 1) (by omega) with c | c | ⟨i, hi, rfl⟩
    · rw [if_pos c, if_pos c]; exact hno
    · have c0 : ¬ a < 0 := fun h3 => absurd (Int32.lt_of_le_of_lt c h3) (nI_pos (by omega))
      rw [if_neg c0, if_neg c0, if_pos (show (z1, nI 0, nI (dep D.2.2.1 400 fs), z4, z5, z6).2.2.1 < a from Int32.lt_of_lt_of_le (nI_lt (Nat.lt_succ_self _) (by omega)) c), if_pos (show (q1, q2, q3, q4, q5, q6, nI 0, q8, q9, nI (dep D.2.2.1 400 fs + 1), q11).2.2.2.2.2.2.2.2.2.1 ≤ a from c)]
      exact hno
    rw [if_neg (nI_pos (n := i) (by omega)), if_neg (nI_pos (n := i) (by omega)), if_neg (show ¬ (z1, nI 0, nI (dep D.2.2.1 400 fs), z4, z5, z6).2.2.1 < nI i from nI_nlt (by omega) (by omega)), if_neg (show ¬ (q1, q2, q3, q4, q5, q6, nI 0, q8, q9, nI (dep D.2.2.1 400 fs + 1), q11).2.2.2.2.2.2.2.2.2.1 ≤ nI i from nI_ge hi (by omega))]
    by_cases d1 : b < 0
    · rw [if_pos d1, if_pos d1]; exact hno
    by_cases d2 : b ≤ 6
    rotate_left
    · rw [if_neg d1, if_neg d1, if_neg d2, if_neg d2]; exact hno
    rw [if_neg d1, if_neg d1, if_pos d2, if_pos d2]
    obtain ⟨w, hw6, rfl⟩ := nI_of2 (x := b) (M := 6) (n := 6) (by decide) d1 d2
    -- the state after k of the row's events
    have hst : ∀ k, k ≤ dep D.2.2.1 400 fs → anc D.2.2.1 fs (dep D.2.2.1 400 fs - k) < D.1 := fun k hk => (anc_dep hpar (by omega) k1 _ (by omega)).1
    let T : Nat → Nat → Nat := fun k => if k ≤ dep D.2.2.1 400 fs then D.2.1 (anc D.2.2.1 fs (dep D.2.2.1 400 fs - k)) else sGo X fe (D.2.1 fs)
    let E : Nat → Nat := fun k => if k < dep D.2.2.1 400 fs then D.2.2.2.1 (anc D.2.2.1 fs (dep D.2.2.1 400 fs - 1 - k)) else fe
    have hTV : ∀ k, sV X (T k) := fun k => by
      show sV X (if k ≤ dep D.2.2.1 400 fs then D.2.1 (anc D.2.2.1 fs (dep D.2.2.1 400 fs - k)) else sGo X fe (D.2.1 fs))
      by_cases hk : k ≤ dep D.2.2.1 400 fs
      · rw [if_pos hk]; exact hw.2.1 _ (hst k hk)
      · rw [if_neg hk]; exact sV_go hX (hw.2.1 _ k1) (by have : fe < 1 + X 8 0 + X 8 1 := k2; omega)
    have hEl : ∀ k, E k ≤ X 8 0 + X 8 1 := fun k => by
      show (if k < dep D.2.2.1 400 fs then D.2.2.2.1 (anc D.2.2.1 fs (dep D.2.2.1 400 fs - 1 - k)) else fe) ≤ _
      by_cases hk : k < dep D.2.2.1 400 fs
      · rw [if_pos hk]
        have h1 : _ < 1 + X 8 0 + X 8 1 := (hw.2.2.2.2 _ (anc_pos hpar (by omega) k1 (show dep D.2.2.1 400 fs - 1 - k < _ by omega)) (anc_dep hpar (by omega) k1 _ (by omega)).1).2.1
        omega
      · rw [if_neg hk]; have : fe < 1 + X 8 0 + X 8 1 := k2; omega
    have hre : ∀ k, k ≤ dep D.2.2.1 400 fs → zQ_rowEvents k = nI (E k) := fun k hk => by
      show _ = nI (if k < dep D.2.2.1 400 fs then D.2.2.2.1 (anc D.2.2.1 fs (dep D.2.2.1 400 fs - 1 - k)) else fe)
      by_cases hk2 : k < dep D.2.2.1 400 fs
      · rw [if_pos hk2]
        have := k11 (dep D.2.2.1 400 fs - 1 - k) (by omega)
        rw [show dep D.2.2.1 400 fs - 1 - (dep D.2.2.1 400 fs - 1 - k) = k by omega] at this
        exact this
      · obtain rfl : k = dep D.2.2.1 400 fs := by omega
        rw [if_neg hk2]; exact k10
    have hstep : ∀ k, k ≤ dep D.2.2.1 400 fs → sGo X (E k) (T k) = T (k + 1) ∧ sFault X (E k) (T k) = (if k < dep D.2.2.1 400 fs then 0 else sFault X fe (D.2.1 fs)) := fun k hk => by
      show sGo X (if k < dep D.2.2.1 400 fs then D.2.2.2.1 (anc D.2.2.1 fs (dep D.2.2.1 400 fs - 1 - k)) else fe) (if k ≤ dep D.2.2.1 400 fs then D.2.1 (anc D.2.2.1 fs (dep D.2.2.1 400 fs - k)) else sGo X fe (D.2.1 fs)) = (if k + 1 ≤ dep D.2.2.1 400 fs then D.2.1 (anc D.2.2.1 fs (dep D.2.2.1 400 fs - (k + 1))) else sGo X fe (D.2.1 fs)) ∧ sFault X (if k < dep D.2.2.1 400 fs then D.2.2.2.1 (anc D.2.2.1 fs (dep D.2.2.1 400 fs - 1 - k)) else fe) (if k ≤ dep D.2.2.1 400 fs then D.2.1 (anc D.2.2.1 fs (dep D.2.2.1 400 fs - k)) else sGo X fe (D.2.1 fs)) = _
      by_cases hk2 : k < dep D.2.2.1 400 fs
      · rw [if_pos hk2, if_pos hk, if_pos (show k + 1 ≤ dep D.2.2.1 400 fs from hk2), if_pos hk2, show dep D.2.2.1 400 fs - (k + 1) = dep D.2.2.1 400 fs - 1 - k by omega, show dep D.2.2.1 400 fs - k = (dep D.2.2.1 400 fs - 1 - k) + 1 by omega]
        obtain ⟨-, -, b1, b2⟩ := hw.2.2.2.2 _ (anc_pos hpar (by omega) k1 (show dep D.2.2.1 400 fs - 1 - k < _ by omega)) (anc_dep hpar (by omega) k1 _ (by omega)).1
        exact ⟨b2.symm, b1⟩
      · obtain rfl : k = dep D.2.2.1 400 fs := by omega
        rw [if_neg hk2, if_pos hk, if_neg (show ¬ dep D.2.2.1 400 fs + 1 ≤ dep D.2.2.1 400 fs by omega), if_neg hk2, Nat.sub_self]
        exact ⟨rfl, rfl⟩
    have hq2 : qX X (0, q2, q3, q4, q5, q6, nI 0, q8, q9, nI (dep D.2.2.1 400 fs + 1), q11) zQ_clashes zQ_between zQ_least zQ_most zQ_phases zQ_groups zQ_shortest zQ_longestOf := hq
    obtain ⟨now1, g1, g2⟩ := pq_first (now := zQ_now) hF hX hq2
    rw [if_pos hp] at g2
    have hT0 : T 0 = sIni X := by
      show (if 0 ≤ dep D.2.2.1 400 fs then D.2.1 (anc D.2.2.1 fs (dep D.2.2.1 400 fs - 0)) else sGo X fe (D.2.1 fs)) = _
      rw [if_pos (Nat.zero_le _), Nat.sub_zero, anc_end hpar (by omega) k1]
      exact hw.2.2.2.1
    obtain ⟨n2, ⟨x2, now2, kept2⟩, e2, i1, i2⟩ := lpA (α := Int32 × (Nat → Int32) × (Nat → Int32)) (L := fun n k a => m_X7_row_L45 F zQ_clashes zQ_between zQ_least zQ_most zQ_phases zQ_groups zQ_shortest zQ_longestOf zQ_rowEvents n (nI i) (nI w) a.1 (nI k) (0, q2, q3, q4, q5, q6, nI 0, q8, q9, nI (dep D.2.2.1 400 fs + 1), q11) a.2.1 a.2.2) (N := i + 1) (Inv := fun k a => qN (T k) a.2.1 ∧ ∀ k', k' + 1 = k → a.1 = nI (sFault X (E k') (T k'))) (by
      intro n k ⟨x1, nw, kp⟩ hk ⟨hi1, hi2⟩
      obtain ⟨nw', kp', f1, f2⟩ := pq_go (kept := kp) hF hX hq2 (hTV k) (hEl k) hi1
      refine ⟨(nI (sFault X (E k) (T k)), nw', kp'), ?_, ?_, fun k' hk' => ?_⟩
      · show m_X7_row_L45 F zQ_clashes zQ_between zQ_least zQ_most zQ_phases zQ_groups zQ_shortest zQ_longestOf zQ_rowEvents (n + 1) (nI i) (nI w) x1 (nI k) (0, q2, q3, q4, q5, q6, nI 0, q8, q9, nI (dep D.2.2.1 400 fs + 1), q11) nw kp = m_X7_row_L45 F zQ_clashes zQ_between zQ_least zQ_most zQ_phases zQ_groups zQ_shortest zQ_longestOf zQ_rowEvents n (nI i) (nI w) (nI (sFault X (E k) (T k))) (nI (k + 1)) (0, q2, q3, q4, q5, q6, nI 0, q8, q9, nI (dep D.2.2.1 400 fs + 1), q11) nw' kp'
        rw [u_X7_row_L45, if_neg (show ¬ nI i < nI k from nI_nlt (by omega) (by omega)), pn_ck (by omega) (by omega), nI_clamp (by omega), hre k (by omega), f1, pn_bd, nI_1]
      · show qN (T (k + 1)) nw'
        rw [← (hstep k (by omega)).1]; exact f2
      · obtain rfl : k' = k := by omega
        rfl) (i + 1) F 0 (0, now1, zQ_kept) (by omega) (by omega) ⟨by rw [hT0]; exact g2, fun k' h => by omega⟩
    have e2 : m_X7_row_L45 F zQ_clashes zQ_between zQ_least zQ_most zQ_phases zQ_groups zQ_shortest zQ_longestOf zQ_rowEvents F (nI i) (nI w) 0 0 (0, q2, q3, q4, q5, q6, nI 0, q8, q9, nI (dep D.2.2.1 400 fs + 1), q11) now1 zQ_kept = m_X7_row_L45 F zQ_clashes zQ_between zQ_least zQ_most zQ_phases zQ_groups zQ_shortest zQ_longestOf zQ_rowEvents (n2 + 1) (nI i) (nI w) x2 (nI (i + 1)) (0, q2, q3, q4, q5, q6, nI 0, q8, q9, nI (dep D.2.2.1 400 fs + 1), q11) now2 kept2 := e2
    have i2 := i2 i rfl
    have href : m_X7_row_L45 F zQ_clashes zQ_between zQ_least zQ_most zQ_phases zQ_groups zQ_shortest zQ_longestOf zQ_rowEvents F (nI i) (nI w) 0 0 (0, q2, q3, q4, q5, q6, nI 0, q8, q9, nI (dep D.2.2.1 400 fs + 1), q11) now1 zQ_kept = some (nI (rwV X (T (i + 1)) (sFault X (E i) (T i)) (E i) w), ((0, q2, q3, q4, q5, q6, nI 0, q8, q9, nI (dep D.2.2.1 400 fs + 1), q11), now2, kept2)) := by
      rw [e2, u_X7_row_L45, if_pos (show nI i < nI (i + 1) from nI_lt (by omega) (by omega))]
      have hw' : w = 0 ∨ w = 1 ∨ w = 2 ∨ w = 3 ∨ w = 4 ∨ w = 5 ∨ w = 6 := by omega
      have hV := hTV (i + 1)
      rcases hw' with rfl | rfl | rfl | rfl | rfl | rfl | rfl
      · rw [if_pos (show nI 0 = 0 from rfl), pn_ck (by omega) (by omega), nI_clamp (by omega), hre i (by omega)]; rfl
      · exact congrArg (fun x => some (x, _)) (i1 0 (by omega))
      · exact congrArg (fun x => some (x, _)) (i1 1 (by omega))
      · exact (congrArg (fun x => gk_bd x (fun v9 => some (v9, (_, _, _)))) (pq_shown hF hX hq2 hV.1 hV.2.2.2.1 hV.2.2.1 i1)).trans rfl
      · exact congrArg (fun x => some (x, _)) (i1 3 (by omega))
      · exact congrArg (fun x => some (x, _)) (i1 7 (by omega))
      · exact congrArg (fun x => some (x, _)) i2
    have hcls : ∃ zm' za', (if nI i = (z1, nI 0, nI (dep D.2.2.1 400 fs), z4, z5, z6).2.2.1 then m_X4_rowEntry_J44 F (z1, nI 0, nI (dep D.2.2.1 400 fs), z4, z5, z6) zX zX_members zS_proof_keys zS_proof_events zS_proof_path (nI i) (nI w) 1 zS_proof_machine zS_proof_machine_ages else m_X4_rowEntry_J44 F (z1, nI 0, nI (dep D.2.2.1 400 fs), z4, z5, z6) zX zX_members zS_proof_keys zS_proof_events zS_proof_path (nI i) (nI w) 0 zS_proof_machine zS_proof_machine_ages) = some (nI (rwV X (T (i + 1)) (sFault X (E i) (T i)) (E i) w), (zm', za')) := by
      by_cases hid : i = dep D.2.2.1 400 fs
      · subst hid
        rw [if_pos (show nI (dep D.2.2.1 400 fs) = (z1, nI 0, nI (dep D.2.2.1 400 fs), z4, z5, z6).2.2.1 from rfl)]
        unfold m_X4_rowEntry_J44
        rw [if_neg (show ¬ (1 : Int32) = 0 by decide)]
        obtain ⟨b1, b2⟩ := hstep (dep D.2.2.1 400 fs) (Nat.le_refl _)
        refine pc_row6 hF hX hc (hTV _) hw6 (z1, nI 0, nI (dep D.2.2.1 400 fs), z4, z5, z6) zS_proof_path zS_proof_machine zS_proof_machine_ages 0 1 (Or.inr ⟨rfl, ?_, ?_, ?_⟩)
        · show z4 = nI (if dep D.2.2.1 400 fs < dep D.2.2.1 400 fs then _ else fe)
          rw [if_neg (by omega)]; exact k5
        · rw [b2, if_neg (by omega)]; exact k6
        · show z6 = lN (pkN (if dep D.2.2.1 400 fs + 1 ≤ dep D.2.2.1 400 fs then _ else sGo X fe (D.2.1 fs)))
          rw [if_neg (by omega)]; exact k7
      · rw [if_neg (show ¬ nI i = (z1, nI 0, nI (dep D.2.2.1 400 fs), z4, z5, z6).2.2.1 from fun h => hid ((nI_eq (by omega) (by omega)).mp h))]
        unfold m_X4_rowEntry_J44
        have hni : dep D.2.2.1 400 fs - 1 - i < dep D.2.2.1 400 fs := by omega
        have hnl := (anc_dep hpar (by omega) k1 _ (Nat.le_of_lt hni)).1
        have ee : ((z1, nI 0, nI (dep D.2.2.1 400 fs), z4, z5, z6).2.2.1 - 1) - nI i = nI (dep D.2.2.1 400 fs - 1 - i) := by
          show (nI (dep D.2.2.1 400 fs) - nI 1) - nI i = _
          rw [pk_sub (by omega), pk_sub (by omega)]
        rw [if_pos (show (0 : Int32) = 0 from rfl), ee, pn_ck (by omega) (by omega), nI_clamp (by omega), k8 _ hni]
        obtain ⟨b1, b2⟩ := hstep i (by omega)
        refine pc_row6 hF hX hc (hTV _) hw6 (z1, nI 0, nI (dep D.2.2.1 400 fs), z4, z5, z6) zS_proof_path zS_proof_machine zS_proof_machine_ages _ 0 (Or.inl ⟨rfl, by omega, ?_, ?_, ?_⟩)
        · show _ = lN (pkN (if i + 1 ≤ dep D.2.2.1 400 fs then D.2.1 (anc D.2.2.1 fs (dep D.2.2.1 400 fs - (i + 1))) else _))
          rw [if_pos (by omega), show dep D.2.2.1 400 fs - (i + 1) = dep D.2.2.1 400 fs - 1 - i by omega]
          exact hcd.2.1 _ hnl
        · show _ = nI (if i < dep D.2.2.1 400 fs then D.2.2.2.1 (anc D.2.2.1 fs (dep D.2.2.1 400 fs - 1 - i)) else fe)
          rw [if_pos (by omega)]
          exact (hcd.2.2.1 _ hnl).2
        · rw [b2, if_pos (by omega)]
    obtain ⟨zm', za', hcls⟩ := hcls
    rw [hcls, pn_bd]
    show ∃ r zm' za' zQ' now' kept', _ ∧ gk_bd (m_X7_first F (0, q2, q3, q4, q5, q6, nI 0, q8, q9, nI (dep D.2.2.1 400 fs + 1), q11) zQ_groups zQ_now) _ = _ ∧ _
    rw [g1, pn_bd]
    exact ⟨_, _, _, _, _, _, rfl, href, hI _ _ _ _⟩
  · have h1 : ¬ z2 = 0 ∧ ¬ q7 = 0 := by
      rcases hP with ⟨-, -, h1, -, h2, -⟩ | ⟨h0, -, -, h1, h2, -⟩
      · have h1 : z2 = nI 3 := h1
        have h2 : q7 = -1 := h2
        rw [h1, h2]; exact ⟨by decide, by decide⟩
      · have h1 : z2 = nI pv := h1
        have h2 : q7 = nI pv := h2
        rw [h1, h2]; exact ⟨zn0 hpv (by omega), zn0 hpv (by omega)⟩
    rw [if_neg (show ¬ (z1, z2, z3, z4, z5, z6).2.1 = 0 from h1.1), if_neg (show ¬ (q1, q2, q3, q4, q5, q6, q7, q8, q9, q10, q11).2.2.2.2.2.2.1 = 0 from h1.2)]
    exact hno
