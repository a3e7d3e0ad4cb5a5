/-! how long anybody can wait -/
theorem lng_same {F : Nat} (hF : 2000 ≤ F) {X : Nat → Nat → Nat} (hX : xG X) {fs fe : Nat} {D : BD} {zP : Int32 × Int32 × Int32 × Int32 × Int32 × Int64} {lw nx : Nat → Int32} {ks : Nat → Int64} {pa ev sl path : Nat → Int32} {q1 q4 q5 q6 q7 q8 q9 q10 q11 : Int32} {st cf cb ld re : Nat → Int32} (hP : iP X 1 fs fe D zP lw nx ks pa ev sl path (q1, nI (X 8 0), nI (X 8 1), q4, q5, q6, q7, q8, q9, q10, q11) st cf cb ld re) {g : Nat} (hg : g < X 8 0) : (lw g = -1 ∨ ¬ lw g < 0) ∧ ∀ wz p1, ∃ wz', m_X7_longest F (nI g) (p1, nI (X 8 0), nI (X 8 1), q4, q5, q6, q7, q8, q9, q10, q11) st ld wz = some (lw g, ((0, nI (X 8 0), nI (X 8 1), q4, q5, q6, q7, q8, q9, q10, q11), wz')) := by
  rcases hP with ⟨h, -⟩ | ⟨-, -, -, -, h2, h3, h4, ⟨lim, hl, hw⟩, -, hqd, h5, -⟩
  · exact absurd h (by decide)
  obtain rfl : q7 = nI 1 := h2
  obtain rfl : q8 = nI D.1 := h3
  obtain rfl : q9 = nI (xE X) := h4
  obtain ⟨-, h6, h7⟩ := h5 rfl
  obtain ⟨r, wz', e1, e2⟩ := pq_longest hX hF hl hw hqd h6 q1 q4 q5 q6 q10 q11 ld hg
  refine ⟨?_, fun wz p1 => ?_⟩
  · rw [← lg_eq e2 (h7 g hg)]
    exact lgR_ge e2
  · obtain ⟨r, wz', e1, e2⟩ := pq_longest hX hF hl hw hqd h6 p1 q4 q5 q6 q10 q11 wz hg
    rw [lg_eq e2 (h7 g hg)] at e1
    exact ⟨wz', e1⟩
theorem iP_pv {X : Nat → Nat → Nat} {pv fs fe : Nat} {D : BD} {z1 z2 z3 z4 z5 : Int32} {z6 : Int64} {lw nx : Nat → Int32} {ks : Nat → Int64} {pa ev sl path : Nat → Int32} {zQ : QT} {st cf cb ld re : Nat → Int32} (hP : iP X pv fs fe D (z1, z2, z3, z4, z5, z6) lw nx ks pa ev sl path zQ st cf cb ld re) (h1 : pv ≠ 1) : ¬ z2 = 1 ∧ ¬ zQ.2.2.2.2.2.2.1 = 1 := by
  rcases hP with ⟨-, -, h1, -, h2, -⟩ | ⟨h0, -, -, h2, h3, -⟩
  · have h1 : z2 = nI 3 := h1
    rw [h1, h2]; exact ⟨by decide, by decide⟩
  · have h2 : z2 = nI pv := h2
    rw [h2, h3]
    exact ⟨fun h => h1 ((nI_eq (b := 1) (by omega) (by omega)).mp h), fun h => h1 ((nI_eq (b := 1) (by omega) (by omega)).mp h)⟩
theorem iP_p1 {X : Nat → Nat → Nat} {fs fe : Nat} {D : BD} {z1 z2 z3 z4 z5 : Int32} {z6 : Int64} {lw nx : Nat → Int32} {ks : Nat → Int64} {pa ev sl path : Nat → Int32} {zQ : QT} {st cf cb ld re : Nat → Int32} (hP : iP X 1 fs fe D (z1, z2, z3, z4, z5, z6) lw nx ks pa ev sl path zQ st cf cb ld re) : z2 = 1 ∧ zQ.2.2.2.2.2.2.1 = 1 := by
  rcases hP with ⟨h, -⟩ | ⟨-, -, -, h2, h3, -⟩
  · exact absurd h (by decide)
  · exact ⟨h2, h3⟩
theorem op_longest {F : Nat} (hF : 2000 ≤ F) {zS : Int32} {zX : Int32 × Int32} {zX_clashing : Nat → Int32} {zX_between : Nat → Int32} {zX_leastTimes : Nat → Int32} {zX_mostTimes : Nat → Int32} {zX_phases : Nat → Int32} {zX_members : Nat → Int32} {zX_shortest : Nat → Int32} {zX_longestTimes : Nat → Int32} {zS_text : Int32 × Int32} {zS_text_signs : Nat → Int32} {zS_text_members : Nat → Int32} {zS_text_shortest : Nat → Int32} {zS_text_longestTimes : Nat → Int32} {zS_diary : Int32} {zS_diary_seconds : Nat → Int32} {zS_diary_events : Nat → Int32} {zS_machine : Int32 × Int32 × Int32 × Int32 × Int32 × Int32 × Int32 × Int32} {zS_machine_ages : Nat → Int32} {zS_trial : Int32 × Int32 × Int32 × Int32 × Int32 × Int32 × Int32 × Int32} {zS_trial_ages : Nat → Int32} {zS_proof : Int32 × Int32 × Int32 × Int32 × Int32 × Int64} {zS_proof_longestWaits : Nat → Int32} {zS_proof_machine : Int32 × Int32 × Int32 × Int32 × Int32 × Int32 × Int32 × Int32} {zS_proof_machine_ages : Nat → Int32} {zS_proof_graph_nexts : Nat → Int32} {zS_proof_graph_unfollowed : Nat → Int32} {zS_proof_graph_depths : Nat → Int32} {zS_proof_graph_queue : Nat → Int32} {zS_proof_keys : Nat → Int64} {zS_proof_parents : Nat → Int32} {zS_proof_events : Nat → Int32} {zS_proof_slots : Nat → Int32} {zS_proof_path : Nat → Int32} {zQ : Int32 × Int32 × Int32 × Int32 × Int32 × Int32 × Int32 × Int32 × Int32 × Int32 × Int32} {zQ_clashes : Nat → Int32} {zQ_between : Nat → Int32} {zQ_least : Nat → Int32} {zQ_most : Nat → Int32} {zQ_phases : Nat → Int32} {zQ_groups : Nat → Int32} {zQ_shortest : Nat → Int32} {zQ_longestOf : Nat → Int32} {zQ_text : Nat → Int32} {zQ_tellSecond : Nat → Int32} {zQ_tellEvent : Nat → Int32} {zQ_machine : Nat → Int32} {zQ_now : Nat → Int32} {zQ_kept : Nat → Int32} {zQ_states : Nat → Int32} {zQ_cameFrom : Nat → Int32} {zQ_cameBy : Nat → Int32} {zQ_leads : Nat → Int32} {zQ_rowEvents : Nat → Int32} {zQ_waits : Nat → Int32} (h : INV zS zX zX_clashing zX_between zX_leastTimes zX_mostTimes zX_phases zX_members zX_shortest zX_longestTimes zS_text zS_text_signs zS_text_members zS_text_shortest zS_text_longestTimes zS_diary zS_diary_seconds zS_diary_events zS_machine zS_machine_ages zS_trial zS_trial_ages zS_proof zS_proof_longestWaits zS_proof_machine zS_proof_machine_ages zS_proof_graph_nexts zS_proof_graph_unfollowed zS_proof_graph_depths zS_proof_graph_queue zS_proof_keys zS_proof_parents zS_proof_events zS_proof_slots zS_proof_path zQ zQ_clashes zQ_between zQ_least zQ_most zQ_phases zQ_groups zQ_shortest zQ_longestOf zQ_text zQ_tellSecond zQ_tellEvent zQ_machine zQ_now zQ_kept zQ_states zQ_cameFrom zQ_cameBy zQ_leads zQ_rowEvents zQ_waits) (a : Int32) : ∃ r zQ' wz', m_X6_longest F a zS zX zS_proof zS_proof_longestWaits = some r ∧ m_X7_longest F a zQ zQ_states zQ_leads zQ_waits = some (r, (zQ', wz')) ∧ INV zS zX zX_clashing zX_between zX_leastTimes zX_mostTimes zX_phases zX_members zX_shortest zX_longestTimes zS_text zS_text_signs zS_text_members zS_text_shortest zS_text_longestTimes zS_diary zS_diary_seconds zS_diary_events zS_machine zS_machine_ages zS_trial zS_trial_ages zS_proof zS_proof_longestWaits zS_proof_machine zS_proof_machine_ages zS_proof_graph_nexts zS_proof_graph_unfollowed zS_proof_graph_depths zS_proof_graph_queue zS_proof_keys zS_proof_parents zS_proof_events zS_proof_slots zS_proof_path zQ' zQ_clashes zQ_between zQ_least zQ_most zQ_phases zQ_groups zQ_shortest zQ_longestOf zQ_text zQ_tellSecond zQ_tellEvent zQ_machine zQ_now zQ_kept zQ_states zQ_cameFrom zQ_cameBy zQ_leads zQ_rowEvents wz' := by
  obtain ⟨X, tx, un, tc, ts, te, s, pv, fs, fe, D, hX, hc, hq, hT, hD, hM, hP⟩ := h
  obtain ⟨q1, q2, q3, q4, q5, q6, q7, q8, q9, q10, q11⟩ := zQ
  obtain ⟨z1, z2, z3, z4, z5, z6⟩ := zS_proof
  have hN := hX.2.1
  obtain rfl := hc.1
  obtain rfl : q2 = nI (X 8 0) := hq.1
  obtain rfl : q3 = nI (X 8 1) := hq.2.1
  have hI : ∀ wz', INV zS ((nI (X 8 0), nI (X 8 1))) zX_clashing zX_between zX_leastTimes zX_mostTimes zX_phases zX_members zX_shortest zX_longestTimes zS_text zS_text_signs zS_text_members zS_text_shortest zS_text_longestTimes zS_diary zS_diary_seconds zS_diary_events zS_machine zS_machine_ages zS_trial zS_trial_ages ((z1, z2, z3, z4, z5, z6)) zS_proof_longestWaits zS_proof_machine zS_proof_machine_ages zS_proof_graph_nexts zS_proof_graph_unfollowed zS_proof_graph_depths zS_proof_graph_queue zS_proof_keys zS_proof_parents zS_proof_events zS_proof_slots zS_proof_path ((0, nI (X 8 0), nI (X 8 1), q4, q5, q6, q7, q8, q9, q10, q11)) zQ_clashes zQ_between zQ_least zQ_most zQ_phases zQ_groups zQ_shortest zQ_longestOf zQ_text zQ_tellSecond zQ_tellEvent zQ_machine zQ_now zQ_kept zQ_states zQ_cameFrom zQ_cameBy zQ_leads zQ_rowEvents wz' := fun wz' => ⟨X, tx, un, tc, ts, te, s, pv, fs, fe, D, hX, hc, hq, hT, hD, hM, hP⟩
  unfold m_X6_longest
  by_cases hpv : pv = 1
  · subst hpv
    obtain ⟨h1, h2⟩ := iP_p1 hP
    rw [if_pos (show (z1, z2, z3, z4, z5, z6).2.1 = 1 from h1)]
    rcases grp_c (F := F) (N := X 8 0) (by omega) a (nI (X 8 1)) (0, nI (X 8 0), nI (X 8 1), q4, q5, q6, q7, q8, q9, q10, q11) rfl with ⟨g, hg, rfl, e1, e2⟩ | ⟨-, e1, e2⟩
    · obtain ⟨-, h3⟩ := lng_same hF hX hP hg
      obtain ⟨wz', h3⟩ := h3 zQ_waits q1
      rw [e1, pn_bd, if_neg (show ¬ (1 : Int32) = 0 by decide), pn_ck (by omega) (by omega), nI_clamp (by omega)]
      exact ⟨_, _, _, rfl, h3, hI _⟩
    · unfold m_X7_longest
      rw [e1, pn_bd, if_pos rfl, if_pos (show (q1, nI (X 8 0), nI (X 8 1), q4, q5, q6, q7, q8, q9, q10, q11).2.2.2.2.2.2.1 = 1 from h2)]
      show ∃ r zQ' wz', _ ∧ gk_bd (m_X7_isGroup F a (0, nI (X 8 0), nI (X 8 1), q4, q5, q6, q7, q8, q9, q10, q11)) _ = _ ∧ _
      rw [e2, pn_bd, if_pos rfl]
      exact ⟨_, _, _, rfl, rfl, hI _⟩
  · obtain ⟨h1, h2⟩ := iP_pv hP hpv
    unfold m_X7_longest
    rw [if_neg (show ¬ (z1, z2, z3, z4, z5, z6).2.1 = 1 from h1), if_neg (show ¬ (q1, nI (X 8 0), nI (X 8 1), q4, q5, q6, q7, q8, q9, q10, q11).2.2.2.2.2.2.1 = 1 from h2)]
    exact ⟨_, _, _, rfl, rfl, hI _⟩
theorem op_ring {F : Nat} (hF : 2000 ≤ F) {zS : Int32} {zX : Int32 × Int32} {zX_clashing : Nat → Int32} {zX_between : Nat → Int32} {zX_leastTimes : Nat → Int32} {zX_mostTimes : Nat → Int32} {zX_phases : Nat → Int32} {zX_members : Nat → Int32} {zX_shortest : Nat → Int32} {zX_longestTimes : Nat → Int32} {zS_text : Int32 × Int32} {zS_text_signs : Nat → Int32} {zS_text_members : Nat → Int32} {zS_text_shortest : Nat → Int32} {zS_text_longestTimes : Nat → Int32} {zS_diary : Int32} {zS_diary_seconds : Nat → Int32} {zS_diary_events : Nat → Int32} {zS_machine : Int32 × Int32 × Int32 × Int32 × Int32 × Int32 × Int32 × Int32} {zS_machine_ages : Nat → Int32} {zS_trial : Int32 × Int32 × Int32 × Int32 × Int32 × Int32 × Int32 × Int32} {zS_trial_ages : Nat → Int32} {zS_proof : Int32 × Int32 × Int32 × Int32 × Int32 × Int64} {zS_proof_longestWaits : Nat → Int32} {zS_proof_machine : Int32 × Int32 × Int32 × Int32 × Int32 × Int32 × Int32 × Int32} {zS_proof_machine_ages : Nat → Int32} {zS_proof_graph_nexts : Nat → Int32} {zS_proof_graph_unfollowed : Nat → Int32} {zS_proof_graph_depths : Nat → Int32} {zS_proof_graph_queue : Nat → Int32} {zS_proof_keys : Nat → Int64} {zS_proof_parents : Nat → Int32} {zS_proof_events : Nat → Int32} {zS_proof_slots : Nat → Int32} {zS_proof_path : Nat → Int32} {zQ : Int32 × Int32 × Int32 × Int32 × Int32 × Int32 × Int32 × Int32 × Int32 × Int32 × Int32} {zQ_clashes : Nat → Int32} {zQ_between : Nat → Int32} {zQ_least : Nat → Int32} {zQ_most : Nat → Int32} {zQ_phases : Nat → Int32} {zQ_groups : Nat → Int32} {zQ_shortest : Nat → Int32} {zQ_longestOf : Nat → Int32} {zQ_text : Nat → Int32} {zQ_tellSecond : Nat → Int32} {zQ_tellEvent : Nat → Int32} {zQ_machine : Nat → Int32} {zQ_now : Nat → Int32} {zQ_kept : Nat → Int32} {zQ_states : Nat → Int32} {zQ_cameFrom : Nat → Int32} {zQ_cameBy : Nat → Int32} {zQ_leads : Nat → Int32} {zQ_rowEvents : Nat → Int32} {zQ_waits : Nat → Int32} (h : INV zS zX zX_clashing zX_between zX_leastTimes zX_mostTimes zX_phases zX_members zX_shortest zX_longestTimes zS_text zS_text_signs zS_text_members zS_text_shortest zS_text_longestTimes zS_diary zS_diary_seconds zS_diary_events zS_machine zS_machine_ages zS_trial zS_trial_ages zS_proof zS_proof_longestWaits zS_proof_machine zS_proof_machine_ages zS_proof_graph_nexts zS_proof_graph_unfollowed zS_proof_graph_depths zS_proof_graph_queue zS_proof_keys zS_proof_parents zS_proof_events zS_proof_slots zS_proof_path zQ zQ_clashes zQ_between zQ_least zQ_most zQ_phases zQ_groups zQ_shortest zQ_longestOf zQ_text zQ_tellSecond zQ_tellEvent zQ_machine zQ_now zQ_kept zQ_states zQ_cameFrom zQ_cameBy zQ_leads zQ_rowEvents zQ_waits) (a : Int32) : ∃ r zQ' wz', m_X6_ring F a zS zX zS_proof zS_proof_longestWaits = some r ∧ m_X7_ring F a zQ zQ_states zQ_leads zQ_waits = some (r, (zQ', wz')) ∧ INV zS zX zX_clashing zX_between zX_leastTimes zX_mostTimes zX_phases zX_members zX_shortest zX_longestTimes zS_text zS_text_signs zS_text_members zS_text_shortest zS_text_longestTimes zS_diary zS_diary_seconds zS_diary_events zS_machine zS_machine_ages zS_trial zS_trial_ages zS_proof zS_proof_longestWaits zS_proof_machine zS_proof_machine_ages zS_proof_graph_nexts zS_proof_graph_unfollowed zS_proof_graph_depths zS_proof_graph_queue zS_proof_keys zS_proof_parents zS_proof_events zS_proof_slots zS_proof_path zQ' zQ_clashes zQ_between zQ_least zQ_most zQ_phases zQ_groups zQ_shortest zQ_longestOf zQ_text zQ_tellSecond zQ_tellEvent zQ_machine zQ_now zQ_kept zQ_states zQ_cameFrom zQ_cameBy zQ_leads zQ_rowEvents wz' := by
  obtain ⟨X, tx, un, tc, ts, te, s, pv, fs, fe, D, hX, hc, hq, hT, hD, hM, hP⟩ := h
  obtain ⟨q1, q2, q3, q4, q5, q6, q7, q8, q9, q10, q11⟩ := zQ
  obtain ⟨z1, z2, z3, z4, z5, z6⟩ := zS_proof
  have hN := hX.2.1
  have hN1 := hX.1
  obtain rfl := hc.1
  obtain rfl : q2 = nI (X 8 0) := hq.1
  obtain rfl : q3 = nI (X 8 1) := hq.2.1
  have hI : ∀ wz', INV zS ((nI (X 8 0), nI (X 8 1))) zX_clashing zX_between zX_leastTimes zX_mostTimes zX_phases zX_members zX_shortest zX_longestTimes zS_text zS_text_signs zS_text_members zS_text_shortest zS_text_longestTimes zS_diary zS_diary_seconds zS_diary_events zS_machine zS_machine_ages zS_trial zS_trial_ages ((z1, z2, z3, z4, z5, z6)) zS_proof_longestWaits zS_proof_machine zS_proof_machine_ages zS_proof_graph_nexts zS_proof_graph_unfollowed zS_proof_graph_depths zS_proof_graph_queue zS_proof_keys zS_proof_parents zS_proof_events zS_proof_slots zS_proof_path ((0, nI (X 8 0), nI (X 8 1), q4, q5, q6, q7, q8, q9, q10, q11)) zQ_clashes zQ_between zQ_least zQ_most zQ_phases zQ_groups zQ_shortest zQ_longestOf zQ_text zQ_tellSecond zQ_tellEvent zQ_machine zQ_now zQ_kept zQ_states zQ_cameFrom zQ_cameBy zQ_leads zQ_rowEvents wz' := fun wz' => ⟨X, tx, un, tc, ts, te, s, pv, fs, fe, D, hX, hc, hq, hT, hD, hM, hP⟩
  unfold m_X6_ring m_X7_ring
  show ∃ r zQ' wz', _ ∧ m_X7_ring_L9 F zQ_states zQ_leads F a a 0 (0, nI (X 8 0), nI (X 8 1), q4, q5, q6, q7, q8, q9, q10, q11) zQ_waits = _ ∧ _
  have hneg : ∀ n, a < 0 → m_X7_ring_L9 F zQ_states zQ_leads (n + 1) a a 0 (0, nI (X 8 0), nI (X 8 1), q4, q5, q6, q7, q8, q9, q10, q11) zQ_waits = some (-1, ((0, nI (X 8 0), nI (X 8 1), q4, q5, q6, q7, q8, q9, q10, q11), zQ_waits)) := fun n hn => by
    rw [u_X7_ring_L9, if_neg (show ¬ (0, nI (X 8 0), nI (X 8 1), q4, q5, q6, q7, q8, q9, q10, q11).2.1 ≤ 0 from nI_nle hN1 (by omega)), if_pos hn]
  obtain ⟨F', hF'⟩ : ∃ m, F = m + 1 := ⟨F - 1, by omega⟩
  by_cases hpv : pv = 1
  · subst hpv
    obtain ⟨h1, h2⟩ := iP_p1 hP
    rw [if_pos (show (z1, z2, z3, z4, z5, z6).2.1 = 1 from h1)]
    by_cases ha : a < 0
    · rw [if_neg (show ¬ 0 ≤ a from Int32.not_le.mpr ha)]
      refine ⟨_, _, zQ_waits, rfl, ?_, hI _⟩
      have := hneg F' ha
      rw [← hF'] at this
      exact this
    · rw [if_pos (Int32.not_lt.mp ha)]
      have key : ∀ (d k n n' : Nat) (x : Int32) (wz : Nat → Int32), k + d = X 8 0 → d < n → d < n' → ∃ r wz', m_X6_ring_L21 F zS (nI (X 8 0), nI (X 8 1)) (z1, z2, z3, z4, z5, z6) zS_proof_longestWaits n x (nI k) = some r ∧ m_X7_ring_L9 F zQ_states zQ_leads n' a x (nI k) (0, nI (X 8 0), nI (X 8 1), q4, q5, q6, q7, q8, q9, q10, q11) wz = some (r, ((0, nI (X 8 0), nI (X 8 1), q4, q5, q6, q7, q8, q9, q10, q11), wz')) := by
        intro d
        induction d with
        | zero =>
          intro k n n' x wz hk hn hn'
          obtain ⟨n, rfl⟩ : ∃ m, n = m + 1 := ⟨n - 1, by omega⟩
          obtain ⟨n', rfl⟩ : ∃ m, n' = m + 1 := ⟨n' - 1, by omega⟩
          rw [u_X6_ring_L21, u_X7_ring_L9, if_pos (show (nI (X 8 0), nI (X 8 1)).1 ≤ nI k from nI_le (by omega) (by omega)), if_pos (show (0, nI (X 8 0), nI (X 8 1), q4, q5, q6, q7, q8, q9, q10, q11).2.1 ≤ nI k from nI_le (by omega) (by omega))]
          exact ⟨_, _, rfl, rfl⟩
        | succ d ih =>
          intro k n n' x wz hk hn hn'
          obtain ⟨n, rfl⟩ : ∃ m, n = m + 1 := ⟨n - 1, by omega⟩
          obtain ⟨n', rfl⟩ : ∃ m, n' = m + 1 := ⟨n' - 1, by omega⟩
          obtain ⟨-, h3⟩ := lng_same hF hX hP (show k < X 8 0 by omega)
          obtain ⟨wz', h3⟩ := h3 wz 0
          rw [u_X6_ring_L21, u_X7_ring_L9, if_neg (show ¬ (nI (X 8 0), nI (X 8 1)).1 ≤ nI k from nI_ge (by omega) (by omega)), if_neg (show ¬ (0, nI (X 8 0), nI (X 8 1), q4, q5, q6, q7, q8, q9, q10, q11).2.1 ≤ nI k from nI_ge (by omega) (by omega)), if_neg ha, pn_ck (by omega) (by omega), nI_clamp (by omega), h3, pn_bd]
          unfold m_X6_ring_J54 m_X7_ring_J42
          rw [nI_1]
          by_cases c1 : zS_proof_longestWaits k = -1
          · rw [if_pos c1, if_pos (show (zS_proof_longestWaits k, ((0, nI (X 8 0), nI (X 8 1), q4, q5, q6, q7, q8, q9, q10, q11), wz')).1 = -1 from c1)]
            by_cases c2 : x = 0
            · rw [if_pos c2, if_pos c2]
              exact ⟨_, _, rfl, rfl⟩
            · rw [if_neg c2, if_neg c2]
              exact ih (k + 1) n n' (x + -1) wz' (by omega) (by omega) (by omega)
          · rw [if_neg c1, if_neg (show ¬ (zS_proof_longestWaits k, ((0, nI (X 8 0), nI (X 8 1), q4, q5, q6, q7, q8, q9, q10, q11), wz')).1 = -1 from c1)]
            exact ih (k + 1) n n' x wz' (by omega) (by omega) (by omega)
      obtain ⟨r, wz', e1, e2⟩ := key (X 8 0) 0 F F a zQ_waits (by omega) (by omega) (by omega)
      exact ⟨_, _, _, e1, e2, hI _⟩
  · obtain ⟨h1, h2⟩ := iP_pv hP hpv
    rw [if_neg (show ¬ (z1, z2, z3, z4, z5, z6).2.1 = 1 from h1)]
    by_cases ha : a < 0
    · refine ⟨_, _, zQ_waits, rfl, ?_, hI _⟩
      have := hneg F' ha
      rw [← hF'] at this
      exact this
    · have key : ∀ (d k n' : Nat), k + d = X 8 0 → d < n' → m_X7_ring_L9 F zQ_states zQ_leads n' a a (nI k) (0, nI (X 8 0), nI (X 8 1), q4, q5, q6, q7, q8, q9, q10, q11) zQ_waits = some (-1, ((0, nI (X 8 0), nI (X 8 1), q4, q5, q6, q7, q8, q9, q10, q11), zQ_waits)) := by
        intro d
        induction d with
        | zero =>
          intro k n' hk hn'
          obtain ⟨n', rfl⟩ : ∃ m, n' = m + 1 := ⟨n' - 1, by omega⟩
          rw [u_X7_ring_L9, if_pos (show (0, nI (X 8 0), nI (X 8 1), q4, q5, q6, q7, q8, q9, q10, q11).2.1 ≤ nI k from nI_le (by omega) (by omega))]
        | succ d ih =>
          intro k n' hk hn'
          obtain ⟨n', rfl⟩ : ∃ m, n' = m + 1 := ⟨n' - 1, by omega⟩
          have h3 : m_X7_longest F (nI k) (0, nI (X 8 0), nI (X 8 1), q4, q5, q6, q7, q8, q9, q10, q11) zQ_states zQ_leads zQ_waits = some (-2, ((0, nI (X 8 0), nI (X 8 1), q4, q5, q6, q7, q8, q9, q10, q11), zQ_waits)) := by
            unfold m_X7_longest
            rw [if_neg (show ¬ (0, nI (X 8 0), nI (X 8 1), q4, q5, q6, q7, q8, q9, q10, q11).2.2.2.2.2.2.1 = 1 from h2)]
          rw [u_X7_ring_L9, if_neg (show ¬ (0, nI (X 8 0), nI (X 8 1), q4, q5, q6, q7, q8, q9, q10, q11).2.1 ≤ nI k from nI_ge (by omega) (by omega)), if_neg ha, h3, pn_bd, if_neg (show ¬ ((-2 : Int32), ((0, nI (X 8 0), nI (X 8 1), q4, q5, q6, q7, q8, q9, q10, q11), zQ_waits)).1 = -1 from show ¬ (-2 : Int32) = -1 by decide)]
          unfold m_X7_ring_J42
          rw [nI_1]
          exact ih (k + 1) n' (by omega) (by omega)
      exact ⟨_, _, _, rfl, key (X 8 0) 0 F (by omega) (by omega), hI _⟩
theorem op_answered {F : Nat} (hF : 2000 ≤ F) {zS : Int32} {zX : Int32 × Int32} {zX_clashing : Nat → Int32} {zX_between : Nat → Int32} {zX_leastTimes : Nat → Int32} {zX_mostTimes : Nat → Int32} {zX_phases : Nat → Int32} {zX_members : Nat → Int32} {zX_shortest : Nat → Int32} {zX_longestTimes : Nat → Int32} {zS_text : Int32 × Int32} {zS_text_signs : Nat → Int32} {zS_text_members : Nat → Int32} {zS_text_shortest : Nat → Int32} {zS_text_longestTimes : Nat → Int32} {zS_diary : Int32} {zS_diary_seconds : Nat → Int32} {zS_diary_events : Nat → Int32} {zS_machine : Int32 × Int32 × Int32 × Int32 × Int32 × Int32 × Int32 × Int32} {zS_machine_ages : Nat → Int32} {zS_trial : Int32 × Int32 × Int32 × Int32 × Int32 × Int32 × Int32 × Int32} {zS_trial_ages : Nat → Int32} {zS_proof : Int32 × Int32 × Int32 × Int32 × Int32 × Int64} {zS_proof_longestWaits : Nat → Int32} {zS_proof_machine : Int32 × Int32 × Int32 × Int32 × Int32 × Int32 × Int32 × Int32} {zS_proof_machine_ages : Nat → Int32} {zS_proof_graph_nexts : Nat → Int32} {zS_proof_graph_unfollowed : Nat → Int32} {zS_proof_graph_depths : Nat → Int32} {zS_proof_graph_queue : Nat → Int32} {zS_proof_keys : Nat → Int64} {zS_proof_parents : Nat → Int32} {zS_proof_events : Nat → Int32} {zS_proof_slots : Nat → Int32} {zS_proof_path : Nat → Int32} {zQ : Int32 × Int32 × Int32 × Int32 × Int32 × Int32 × Int32 × Int32 × Int32 × Int32 × Int32} {zQ_clashes : Nat → Int32} {zQ_between : Nat → Int32} {zQ_least : Nat → Int32} {zQ_most : Nat → Int32} {zQ_phases : Nat → Int32} {zQ_groups : Nat → Int32} {zQ_shortest : Nat → Int32} {zQ_longestOf : Nat → Int32} {zQ_text : Nat → Int32} {zQ_tellSecond : Nat → Int32} {zQ_tellEvent : Nat → Int32} {zQ_machine : Nat → Int32} {zQ_now : Nat → Int32} {zQ_kept : Nat → Int32} {zQ_states : Nat → Int32} {zQ_cameFrom : Nat → Int32} {zQ_cameBy : Nat → Int32} {zQ_leads : Nat → Int32} {zQ_rowEvents : Nat → Int32} {zQ_waits : Nat → Int32} (h : INV zS zX zX_clashing zX_between zX_leastTimes zX_mostTimes zX_phases zX_members zX_shortest zX_longestTimes zS_text zS_text_signs zS_text_members zS_text_shortest zS_text_longestTimes zS_diary zS_diary_seconds zS_diary_events zS_machine zS_machine_ages zS_trial zS_trial_ages zS_proof zS_proof_longestWaits zS_proof_machine zS_proof_machine_ages zS_proof_graph_nexts zS_proof_graph_unfollowed zS_proof_graph_depths zS_proof_graph_queue zS_proof_keys zS_proof_parents zS_proof_events zS_proof_slots zS_proof_path zQ zQ_clashes zQ_between zQ_least zQ_most zQ_phases zQ_groups zQ_shortest zQ_longestOf zQ_text zQ_tellSecond zQ_tellEvent zQ_machine zQ_now zQ_kept zQ_states zQ_cameFrom zQ_cameBy zQ_leads zQ_rowEvents zQ_waits) : ∃ r zQ' wz', m_X6_answered F zS zX zS_proof zS_proof_longestWaits = some r ∧ m_X7_answered F zQ zQ_states zQ_leads zQ_waits = some (r, (zQ', wz')) ∧ INV zS zX zX_clashing zX_between zX_leastTimes zX_mostTimes zX_phases zX_members zX_shortest zX_longestTimes zS_text zS_text_signs zS_text_members zS_text_shortest zS_text_longestTimes zS_diary zS_diary_seconds zS_diary_events zS_machine zS_machine_ages zS_trial zS_trial_ages zS_proof zS_proof_longestWaits zS_proof_machine zS_proof_machine_ages zS_proof_graph_nexts zS_proof_graph_unfollowed zS_proof_graph_depths zS_proof_graph_queue zS_proof_keys zS_proof_parents zS_proof_events zS_proof_slots zS_proof_path zQ' zQ_clashes zQ_between zQ_least zQ_most zQ_phases zQ_groups zQ_shortest zQ_longestOf zQ_text zQ_tellSecond zQ_tellEvent zQ_machine zQ_now zQ_kept zQ_states zQ_cameFrom zQ_cameBy zQ_leads zQ_rowEvents wz' := by
  obtain ⟨X, tx, un, tc, ts, te, s, pv, fs, fe, D, hX, hc, hq, hT, hD, hM, hP⟩ := h
  obtain ⟨q1, q2, q3, q4, q5, q6, q7, q8, q9, q10, q11⟩ := zQ
  obtain ⟨z1, z2, z3, z4, z5, z6⟩ := zS_proof
  have hN := hX.2.1
  have hN1 := hX.1
  obtain rfl := hc.1
  obtain rfl : q2 = nI (X 8 0) := hq.1
  obtain rfl : q3 = nI (X 8 1) := hq.2.1
  have hI : ∀ wz', INV zS ((nI (X 8 0), nI (X 8 1))) zX_clashing zX_between zX_leastTimes zX_mostTimes zX_phases zX_members zX_shortest zX_longestTimes zS_text zS_text_signs zS_text_members zS_text_shortest zS_text_longestTimes zS_diary zS_diary_seconds zS_diary_events zS_machine zS_machine_ages zS_trial zS_trial_ages ((z1, z2, z3, z4, z5, z6)) zS_proof_longestWaits zS_proof_machine zS_proof_machine_ages zS_proof_graph_nexts zS_proof_graph_unfollowed zS_proof_graph_depths zS_proof_graph_queue zS_proof_keys zS_proof_parents zS_proof_events zS_proof_slots zS_proof_path ((0, nI (X 8 0), nI (X 8 1), q4, q5, q6, q7, q8, q9, q10, q11)) zQ_clashes zQ_between zQ_least zQ_most zQ_phases zQ_groups zQ_shortest zQ_longestOf zQ_text zQ_tellSecond zQ_tellEvent zQ_machine zQ_now zQ_kept zQ_states zQ_cameFrom zQ_cameBy zQ_leads zQ_rowEvents wz' := fun wz' => ⟨X, tx, un, tc, ts, te, s, pv, fs, fe, D, hX, hc, hq, hT, hD, hM, hP⟩
  unfold m_X6_answered m_X6_ring m_X7_answered m_X7_answered_J18
  obtain ⟨F', hF'⟩ : ∃ m, F = m + 1 := ⟨F - 1, by omega⟩
  by_cases hpv : pv = 1
  · subst hpv
    obtain ⟨h1, h2⟩ := iP_p1 hP
    rw [if_pos (show (z1, z2, z3, z4, z5, z6).2.1 = 1 from h1), if_pos (show (z1, z2, z3, z4, z5, z6).2.1 = 1 from h1), if_pos (show (0 : Int32) ≤ 0 by decide), if_pos (show (q1, nI (X 8 0), nI (X 8 1), q4, q5, q6, q7, q8, q9, q10, q11).2.2.2.2.2.2.1 = 1 from h2)]
    show ∃ r zQ' wz', _ ∧ m_X7_answered_L21 F zQ_states zQ_leads F 1 0 (0, nI (X 8 0), nI (X 8 1), q4, q5, q6, q7, q8, q9, q10, q11) zQ_waits = _ ∧ _
    have key : ∀ (d k n n' : Nat) (wz : Nat → Int32), k + d = X 8 0 → d < n → d + 1 < n' → ∃ r wz', m_X6_ring_L21 F zS (nI (X 8 0), nI (X 8 1)) (z1, z2, z3, z4, z5, z6) zS_proof_longestWaits n 0 (nI k) = some r ∧ m_X7_answered_L21 F zQ_states zQ_leads n' 1 (nI k) (0, nI (X 8 0), nI (X 8 1), q4, q5, q6, q7, q8, q9, q10, q11) wz = some ((if r = -1 then 1 else 0), ((0, nI (X 8 0), nI (X 8 1), q4, q5, q6, q7, q8, q9, q10, q11), wz')) := by
      intro d
      induction d with
      | zero =>
        intro k n n' wz hk hn hn'
        obtain ⟨n, rfl⟩ : ∃ m, n = m + 1 := ⟨n - 1, by omega⟩
        obtain ⟨n', rfl⟩ : ∃ m, n' = m + 1 := ⟨n' - 1, by omega⟩
        rw [u_X6_ring_L21, u_X7_answered_L21, if_pos (show (nI (X 8 0), nI (X 8 1)).1 ≤ nI k from nI_le (by omega) (by omega)), if_pos (show (0, nI (X 8 0), nI (X 8 1), q4, q5, q6, q7, q8, q9, q10, q11).2.1 ≤ nI k from nI_le (by omega) (by omega))]
        exact ⟨_, _, rfl, rfl⟩
      | succ d ih =>
        intro k n n' wz hk hn hn'
        obtain ⟨n, rfl⟩ : ∃ m, n = m + 1 := ⟨n - 1, by omega⟩
        obtain ⟨n', rfl⟩ : ∃ m, n' = m + 1 := ⟨n' - 1, by omega⟩
        obtain ⟨h5, h3⟩ := lng_same hF hX hP (show k < X 8 0 by omega)
        obtain ⟨wz', h3⟩ := h3 wz 0
        rw [u_X6_ring_L21, u_X7_answered_L21, if_neg (show ¬ (nI (X 8 0), nI (X 8 1)).1 ≤ nI k from nI_ge (by omega) (by omega)), if_neg (show ¬ (0, nI (X 8 0), nI (X 8 1), q4, q5, q6, q7, q8, q9, q10, q11).2.1 ≤ nI k from nI_ge (by omega) (by omega)), if_neg (show ¬ (1 : Int32) = 0 by decide), pn_ck (by omega) (by omega), nI_clamp (by omega), h3, pn_bd]
        unfold m_X6_ring_J54 m_X7_answered_J46
        rw [nI_1]
        by_cases c1 : zS_proof_longestWaits k = -1
        · rw [if_pos c1, if_pos (show (zS_proof_longestWaits k, ((0, nI (X 8 0), nI (X 8 1), q4, q5, q6, q7, q8, q9, q10, q11), wz')).1 < 0 by show zS_proof_longestWaits k < 0; rw [c1]; decide), if_pos (show (0 : Int32) = 0 from rfl)]
          obtain ⟨n', rfl⟩ : ∃ m, n' = m + 1 := ⟨n' - 1, by omega⟩
          refine ⟨nI k, wz', rfl, ?_⟩
          rw [if_neg (show ¬ nI k = -1 from fun hh => nI_pos (n := k) (by omega) (hh ▸ by decide))]
          show m_X7_answered_L21 F zQ_states zQ_leads (n' + 1) 0 (nI (k + 1)) (0, nI (X 8 0), nI (X 8 1), q4, q5, q6, q7, q8, q9, q10, q11) wz' = _
          rw [u_X7_answered_L21, if_pos (show (0 : Int32) = 0 from rfl), ite_self]
          rfl
        · rw [if_neg c1, if_neg (show ¬ (zS_proof_longestWaits k, ((0, nI (X 8 0), nI (X 8 1), q4, q5, q6, q7, q8, q9, q10, q11), wz')).1 < 0 from h5.resolve_left c1)]
          exact ih (k + 1) n n' wz' (by omega) (by omega) (by omega)
    obtain ⟨r, wz', e1, e2⟩ := key (X 8 0) 0 F F zQ_waits (by omega) (by omega) (by omega)
    have e1 : m_X6_ring_L21 F zS (nI (X 8 0), nI (X 8 1)) (z1, z2, z3, z4, z5, z6) zS_proof_longestWaits F 0 0 = some r := e1
    rw [e1, pn_bd]
    refine ⟨_, _, _, ?_, e2, hI _⟩
    by_cases c : r = -1
    · rw [if_pos c, if_pos c]
    · rw [if_neg c, if_neg c]
  · obtain ⟨h1, h2⟩ := iP_pv hP hpv
    rw [if_neg (show ¬ (z1, z2, z3, z4, z5, z6).2.1 = 1 from h1), if_neg (show ¬ (q1, nI (X 8 0), nI (X 8 1), q4, q5, q6, q7, q8, q9, q10, q11).2.2.2.2.2.2.1 = 1 from h2)]
    refine ⟨0, (0, nI (X 8 0), nI (X 8 1), q4, q5, q6, q7, q8, q9, q10, q11), zQ_waits, rfl, ?_, hI _⟩
    show m_X7_answered_L21 F zQ_states zQ_leads F 0 0 (0, nI (X 8 0), nI (X 8 1), q4, q5, q6, q7, q8, q9, q10, q11) zQ_waits = _
    have := u_X7_answered_L21 F zQ_states zQ_leads F' 0 0 (0, nI (X 8 0), nI (X 8 1), q4, q5, q6, q7, q8, q9, q10, q11) zQ_waits
    rw [← hF'] at this
    rw [this, if_pos (show (0 : Int32) = 0 from rfl), ite_self]
    rfl
