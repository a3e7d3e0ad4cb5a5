/-! the next second, what is told, what is shown -/
theorem pq_back {F : Nat} (hF : 2000 ≤ F) (x : Int32) (zQ : QT) (kl be le mo ph me sh lo qs qe mac now kept : Nat → Int32) : ∃ mac', m_X7_second_L43 F kl be le mo ph me sh lo qs qe F x 0 zQ mac now kept = some (x, (zQ, mac', now, kept)) ∧ ∀ i, i < 14 → mac' i = now i := by
  obtain ⟨n2, a2, e2, h2⟩ := lpA (L := fun n k a => m_X7_second_L43 F kl be le mo ph me sh lo qs qe n x (nI k) zQ a now kept) (N := 14) (Inv := fun k a => ∀ i, i < k → a i = now i) (by
    intro n k a hk hi
    refine ⟨upd a k (now k), ?_, fun i h => ?_⟩
    · show m_X7_second_L43 F kl be le mo ph me sh lo qs qe (n + 1) x (nI k) zQ a now kept = m_X7_second_L43 F kl be le mo ph me sh lo qs qe n x (nI (k + 1)) zQ (upd a k (now k)) now kept
      rw [u_X7_second_L43, if_neg (show ¬ (14 : Int32) ≤ nI k from nI_ge (b := 14) hk (by omega)), pn_ck hk (by omega), pn_ck hk (by omega), nI_clamp (by omega), nI_1]
    · by_cases hh : i = k
      · rw [hh, upd_same]
      · rw [upd_ne hh]; exact hi i (by omega)) 14 F 0 mac (by omega) (by omega) (fun i h => by omega)
  refine ⟨a2, ?_, h2⟩
  have e2 : m_X7_second_L43 F kl be le mo ph me sh lo qs qe F x 0 zQ mac now kept = m_X7_second_L43 F kl be le mo ph me sh lo qs qe (n2 + 1) x (nI 14) zQ a2 now kept := e2
  rw [e2, u_X7_second_L43, if_pos (show (14 : Int32) ≤ nI 14 by decide)]
theorem op_second {F : Nat} (hF : 2000 ≤ F) {zS : Int32} {zX : Int32 × Int32} {zX_clashing : Nat → Int32} {zX_between : Nat → Int32} {zX_leastTimes : Nat → Int32} {zX_mostTimes : Nat → Int32} {zX_phases : Nat → Int32} {zX_members : Nat → Int32} {zX_shortest : Nat → Int32} {zX_longestTimes : Nat → Int32} {zS_text : Int32 × Int32} {zS_text_signs : Nat → Int32} {zS_text_members : Nat → Int32} {zS_text_shortest : Nat → Int32} {zS_text_longestTimes : Nat → Int32} {zS_diary : Int32} {zS_diary_seconds : Nat → Int32} {zS_diary_events : Nat → Int32} {zS_machine : Int32 × Int32 × Int32 × Int32 × Int32 × Int32 × Int32 × Int32} {zS_machine_ages : Nat → Int32} {zS_trial : Int32 × Int32 × Int32 × Int32 × Int32 × Int32 × Int32 × Int32} {zS_trial_ages : Nat → Int32} {zS_proof : Int32 × Int32 × Int32 × Int32 × Int32 × Int64} {zS_proof_longestWaits : Nat → Int32} {zS_proof_machine : Int32 × Int32 × Int32 × Int32 × Int32 × Int32 × Int32 × Int32} {zS_proof_machine_ages : Nat → Int32} {zS_proof_graph_nexts : Nat → Int32} {zS_proof_graph_unfollowed : Nat → Int32} {zS_proof_graph_depths : Nat → Int32} {zS_proof_graph_queue : Nat → Int32} {zS_proof_keys : Nat → Int64} {zS_proof_parents : Nat → Int32} {zS_proof_events : Nat → Int32} {zS_proof_slots : Nat → Int32} {zS_proof_path : Nat → Int32} {zQ : Int32 × Int32 × Int32 × Int32 × Int32 × Int32 × Int32 × Int32 × Int32 × Int32 × Int32} {zQ_clashes : Nat → Int32} {zQ_between : Nat → Int32} {zQ_least : Nat → Int32} {zQ_most : Nat → Int32} {zQ_phases : Nat → Int32} {zQ_groups : Nat → Int32} {zQ_shortest : Nat → Int32} {zQ_longestOf : Nat → Int32} {zQ_text : Nat → Int32} {zQ_tellSecond : Nat → Int32} {zQ_tellEvent : Nat → Int32} {zQ_machine : Nat → Int32} {zQ_now : Nat → Int32} {zQ_kept : Nat → Int32} {zQ_states : Nat → Int32} {zQ_cameFrom : Nat → Int32} {zQ_cameBy : Nat → Int32} {zQ_leads : Nat → Int32} {zQ_rowEvents : Nat → Int32} {zQ_waits : Nat → Int32} (h : INV zS zX zX_clashing zX_between zX_leastTimes zX_mostTimes zX_phases zX_members zX_shortest zX_longestTimes zS_text zS_text_signs zS_text_members zS_text_shortest zS_text_longestTimes zS_diary zS_diary_seconds zS_diary_events zS_machine zS_machine_ages zS_trial zS_trial_ages zS_proof zS_proof_longestWaits zS_proof_machine zS_proof_machine_ages zS_proof_graph_nexts zS_proof_graph_unfollowed zS_proof_graph_depths zS_proof_graph_queue zS_proof_keys zS_proof_parents zS_proof_events zS_proof_slots zS_proof_path zQ zQ_clashes zQ_between zQ_least zQ_most zQ_phases zQ_groups zQ_shortest zQ_longestOf zQ_text zQ_tellSecond zQ_tellEvent zQ_machine zQ_now zQ_kept zQ_states zQ_cameFrom zQ_cameBy zQ_leads zQ_rowEvents zQ_waits) : ∃ r zS' zM' ag' zQ' mac' now' kept', m_X6_second F zS zX zX_clashing zX_between zX_leastTimes zX_mostTimes zX_phases zX_members zX_shortest zX_longestTimes zS_diary zS_diary_seconds zS_diary_events zS_machine zS_machine_ages = some (r, (zS', zM', ag')) ∧ m_X7_second F zQ zQ_clashes zQ_between zQ_least zQ_most zQ_phases zQ_groups zQ_shortest zQ_longestOf zQ_tellSecond zQ_tellEvent zQ_machine zQ_now zQ_kept = some (r, (zQ', mac', now', kept')) ∧ INV zS' zX zX_clashing zX_between zX_leastTimes zX_mostTimes zX_phases zX_members zX_shortest zX_longestTimes zS_text zS_text_signs zS_text_members zS_text_shortest zS_text_longestTimes zS_diary zS_diary_seconds zS_diary_events zM' ag' zS_trial zS_trial_ages zS_proof zS_proof_longestWaits zS_proof_machine zS_proof_machine_ages zS_proof_graph_nexts zS_proof_graph_unfollowed zS_proof_graph_depths zS_proof_graph_queue zS_proof_keys zS_proof_parents zS_proof_events zS_proof_slots zS_proof_path zQ' zQ_clashes zQ_between zQ_least zQ_most zQ_phases zQ_groups zQ_shortest zQ_longestOf zQ_text zQ_tellSecond zQ_tellEvent mac' now' kept' zQ_states zQ_cameFrom zQ_cameBy zQ_leads zQ_rowEvents zQ_waits := by
  obtain ⟨X, tx, un, tc, ts, te, s, pv, fs, fe, D, hX, hc, hq, hT, hD, hM, hP⟩ := h
  obtain ⟨q1, q2, q3, q4, q5, q6, q7, q8, q9, q10, q11⟩ := zQ
  have hN := hX.2.1
  have hPn := hX.2.2.1
  obtain rfl := hc.1
  obtain rfl : zS = q6 := hM.1
  obtain rfl : q3 = nI (X 8 1) := hq.2.1
  unfold m_X6_second m_X7_second
  by_cases h0 : X 8 1 = 0
  · rw [if_pos (show (nI (X 8 0), nI (X 8 1)).2 = 0 by show nI (X 8 1) = 0; rw [h0]; rfl), if_pos (show (q1, q2, nI (X 8 1), q4, q5, zS, q7, q8, q9, q10, q11).2.2.1 = 0 by show nI (X 8 1) = 0; rw [h0]; rfl)]
    exact ⟨_, _, _, _, _, _, _, _, rfl, rfl, X, tx, un, tc, ts, te, s, pv, fs, fe, D, hX, hc, hq, hT, hD, hM, hP⟩
  · rw [if_neg (show ¬ (nI (X 8 0), nI (X 8 1)).2 = 0 from zn0 h0 (by omega)), if_neg (show ¬ (q1, q2, nI (X 8 1), q4, q5, zS, q7, q8, q9, q10, q11).2.2.1 = 0 from zn0 h0 (by omega))]
    obtain ⟨hs, hR, hn⟩ := hM.2 (by omega)
    obtain ⟨e, he, g1, g2⟩ := ev_same hF hD (zS + 1)
    obtain ⟨zM', ag', g3, g4⟩ := pc_step hF hX hc hs he hR
    obtain ⟨now', g5, g6⟩ := pq_take hF (0, q2, nI (X 8 1), q4, q5, zS, q7, q8, q9, q10, q11) zQ_machine zQ_now
    have hq2 : qX X (0, q2, nI (X 8 1), q4, q5, zS + 1, q7, q8, q9, q10, q11) zQ_clashes zQ_between zQ_least zQ_most zQ_phases zQ_groups zQ_shortest zQ_longestOf := hq
    obtain ⟨now2, kept2, g7, g8⟩ := pq_go (kept := zQ_kept) hF hX hq2 hs he (fun i hi => (g6 i hi).trans (hn i hi))
    obtain ⟨mac2, g9, g10⟩ := pq_back hF (nI (sFault X e s)) (0, q2, nI (X 8 1), q4, q5, zS + 1, q7, q8, q9, q10, q11) zQ_clashes zQ_between zQ_least zQ_most zQ_phases zQ_groups zQ_shortest zQ_longestOf zQ_tellSecond zQ_tellEvent zQ_machine now2 kept2
    rw [g1, pn_bd, g3, pn_bd]
    show ∃ r zS' zM' ag' zQ' mac' now' kept', _ ∧ gk_bd (m_X7_take F (0, q2, nI (X 8 1), q4, q5, zS, q7, q8, q9, q10, q11) zQ_machine zQ_now) _ = _ ∧ _
    rw [g5, pn_bd]
    show ∃ r zS' zM' ag' zQ' mac' now' kept', _ ∧ gk_bd (m_X7_eventOf F (zS + 1) (0, q2, nI (X 8 1), q4, q5, zS + 1, q7, q8, q9, q10, q11) zQ_tellSecond zQ_tellEvent) _ = _ ∧ _
    rw [g2 (0, q2, nI (X 8 1), q4, q5, zS + 1, q7, q8, q9, q10, q11) hD.2.2.1, pn_bd]
    show ∃ r zS' zM' ag' zQ' mac' nw kept', _ ∧ gk_bd (m_X7_go F (nI e) (0, q2, nI (X 8 1), q4, q5, zS + 1, q7, q8, q9, q10, q11) zQ_clashes zQ_between zQ_least zQ_most zQ_phases zQ_groups zQ_shortest zQ_longestOf now' zQ_kept) _ = _ ∧ _
    rw [g7, pn_bd]
    exact ⟨_, _, _, _, _, _, _, _, rfl, g9, X, tx, un, tc, ts, te, sGo X e s, pv, fs, fe, D, hX, hc, hq, hT, hD, ⟨rfl, fun _ => ⟨sV_go hX hs he, g4, fun i hi => (g10 i hi).trans (g8 i hi)⟩⟩, hP⟩
theorem find_same {F : Nat} (hF : 2000 ≤ F) {X : Nat → Nat → Nat} (hX : xG X) {pv fs fe : Nat} {D : BD} {zP : Int32 × Int32 × Int32 × Int32 × Int32 × Int64} {lw nx : Nat → Int32} {ks : Nat → Int64} {pa ev sl path : Nat → Int32} {zQ : QT} {st cf cb ld re : Nat → Int32} (hP : iP X pv fs fe D zP lw nx ks pa ev sl path zQ st cf cb ld re) {t : Nat → Nat} (ht : sV X t) : ∃ r, (r = -1 ∨ ∃ i, i < 400 ∧ r = nI i) ∧ m_X4_numberOf F (lN (pkN t)) zP ks sl = some r ∧ ∀ (zR : QT) (now : Nat → Int32), zR.2.2.2.2.2.2.2.1 = zQ.2.2.2.2.2.2.2.1 → qN t now → m_X7_find F zR now st = some r := by
  rcases hP with ⟨-, h1, -, h2, -, h3⟩ | ⟨-, -, h1, -, -, h2, -, ⟨lim, hl, hw⟩, h3, h4, -⟩
  · refine ⟨-1, Or.inl rfl, ?_, fun zR now hz hn => ?_⟩
    · rcases pc_num hF (zP := zP) (ks := ks) (K := fun _ => 0) (v := fun _ => 0) (fd := 0) (k := pkN t) (by omega) (fun i hi => by omega) h2 (HT_0 _) (Nat.lt_trans (pkN_lt (sV_b hX ht)) (by decide)) with ⟨i, hi, -⟩ | ⟨-, e⟩
      · omega
      · exact e
    · unfold m_X7_find
      obtain ⟨F', rfl⟩ : ∃ m, F = m + 1 := ⟨F - 1, by omega⟩
      rw [u_X7_find_L2, if_pos (show zR.2.2.2.2.2.2.2.1 ≤ 0 by rw [hz, h3]; decide)]
  · have hD := hw.1.2
    refine ⟨_, ?_, pc_find hX hF hl hw (h1 ▸ h3) ht, fun zR now hz hn => pq_find hX hF hl (hz.trans h2) hD hw.2.1 h4 ht hn⟩
    by_cases h5 : fIdx D.2.1 D.1 t < D.1
    · rw [if_pos h5]; exact Or.inr ⟨_, by omega, rfl⟩
    · rw [if_neg h5]; exact Or.inl rfl
theorem lit_c {F : Nat} {X : Nat → Nat → Nat} {zX : Int32 × Int32} {cl be le mo ph me sh lo : Nat → Int32} (hF : 2000 ≤ F) (hX : xG X) (hc : cX X zX cl be le mo ph me sh lo) {s : Nat → Nat} {zM : Int32 × Int32 × Int32 × Int32 × Int32 × Int32 × Int32 × Int32} {ag : Nat → Int32} (hs : sV X s) (hR : cR s zM ag) : m_X2_lit F zM zX me = some (nI (sLit X s)) := by
  obtain ⟨⟨bg, cs, rfl⟩, -⟩ := hR
  exact (pc_lit (bg := 0) (cs := 0) hF hX hc hs.1 hs.2.2.2.1 hs.2.2.1 : m_X2_lit F (cM s 0 0) zX me = _)
theorem op_shown {F : Nat} (hF : 2000 ≤ F) {zS : Int32} {zX : Int32 × Int32} {zX_clashing : Nat → Int32} {zX_between : Nat → Int32} {zX_leastTimes : Nat → Int32} {zX_mostTimes : Nat → Int32} {zX_phases : Nat → Int32} {zX_members : Nat → Int32} {zX_shortest : Nat → Int32} {zX_longestTimes : Nat → Int32} {zS_text : Int32 × Int32} {zS_text_signs : Nat → Int32} {zS_text_members : Nat → Int32} {zS_text_shortest : Nat → Int32} {zS_text_longestTimes : Nat → Int32} {zS_diary : Int32} {zS_diary_seconds : Nat → Int32} {zS_diary_events : Nat → Int32} {zS_machine : Int32 × Int32 × Int32 × Int32 × Int32 × Int32 × Int32 × Int32} {zS_machine_ages : Nat → Int32} {zS_trial : Int32 × Int32 × Int32 × Int32 × Int32 × Int32 × Int32 × Int32} {zS_trial_ages : Nat → Int32} {zS_proof : Int32 × Int32 × Int32 × Int32 × Int32 × Int64} {zS_proof_longestWaits : Nat → Int32} {zS_proof_machine : Int32 × Int32 × Int32 × Int32 × Int32 × Int32 × Int32 × Int32} {zS_proof_machine_ages : Nat → Int32} {zS_proof_graph_nexts : Nat → Int32} {zS_proof_graph_unfollowed : Nat → Int32} {zS_proof_graph_depths : Nat → Int32} {zS_proof_graph_queue : Nat → Int32} {zS_proof_keys : Nat → Int64} {zS_proof_parents : Nat → Int32} {zS_proof_events : Nat → Int32} {zS_proof_slots : Nat → Int32} {zS_proof_path : Nat → Int32} {zQ : Int32 × Int32 × Int32 × Int32 × Int32 × Int32 × Int32 × Int32 × Int32 × Int32 × Int32} {zQ_clashes : Nat → Int32} {zQ_between : Nat → Int32} {zQ_least : Nat → Int32} {zQ_most : Nat → Int32} {zQ_phases : Nat → Int32} {zQ_groups : Nat → Int32} {zQ_shortest : Nat → Int32} {zQ_longestOf : Nat → Int32} {zQ_text : Nat → Int32} {zQ_tellSecond : Nat → Int32} {zQ_tellEvent : Nat → Int32} {zQ_machine : Nat → Int32} {zQ_now : Nat → Int32} {zQ_kept : Nat → Int32} {zQ_states : Nat → Int32} {zQ_cameFrom : Nat → Int32} {zQ_cameBy : Nat → Int32} {zQ_leads : Nat → Int32} {zQ_rowEvents : Nat → Int32} {zQ_waits : Nat → Int32} (h : INV zS zX zX_clashing zX_between zX_leastTimes zX_mostTimes zX_phases zX_members zX_shortest zX_longestTimes zS_text zS_text_signs zS_text_members zS_text_shortest zS_text_longestTimes zS_diary zS_diary_seconds zS_diary_events zS_machine zS_machine_ages zS_trial zS_trial_ages zS_proof zS_proof_longestWaits zS_proof_machine zS_proof_machine_ages zS_proof_graph_nexts zS_proof_graph_unfollowed zS_proof_graph_depths zS_proof_graph_queue zS_proof_keys zS_proof_parents zS_proof_events zS_proof_slots zS_proof_path zQ zQ_clashes zQ_between zQ_least zQ_most zQ_phases zQ_groups zQ_shortest zQ_longestOf zQ_text zQ_tellSecond zQ_tellEvent zQ_machine zQ_now zQ_kept zQ_states zQ_cameFrom zQ_cameBy zQ_leads zQ_rowEvents zQ_waits) (a : Int32) : ∃ r zQ' now', m_X6_shown F a zS zX zX_members zS_machine = some r ∧ m_X7_shown F a zQ zQ_groups zQ_machine zQ_now = some (r, (zQ', now')) ∧ INV zS zX zX_clashing zX_between zX_leastTimes zX_mostTimes zX_phases zX_members zX_shortest zX_longestTimes zS_text zS_text_signs zS_text_members zS_text_shortest zS_text_longestTimes zS_diary zS_diary_seconds zS_diary_events zS_machine zS_machine_ages zS_trial zS_trial_ages zS_proof zS_proof_longestWaits zS_proof_machine zS_proof_machine_ages zS_proof_graph_nexts zS_proof_graph_unfollowed zS_proof_graph_depths zS_proof_graph_queue zS_proof_keys zS_proof_parents zS_proof_events zS_proof_slots zS_proof_path zQ' zQ_clashes zQ_between zQ_least zQ_most zQ_phases zQ_groups zQ_shortest zQ_longestOf zQ_text zQ_tellSecond zQ_tellEvent zQ_machine now' zQ_kept zQ_states zQ_cameFrom zQ_cameBy zQ_leads zQ_rowEvents zQ_waits := by
  obtain ⟨X, tx, un, tc, ts, te, s, pv, fs, fe, D, hX, hc, hq, hT, hD, hM, hP⟩ := h
  obtain ⟨q1, q2, q3, q4, q5, q6, q7, q8, q9, q10, q11⟩ := zQ
  have hN := hX.2.1
  have hPn := hX.2.2.1
  obtain rfl := hc.1
  obtain rfl : q3 = nI (X 8 1) := hq.2.1
  unfold m_X6_shown m_X7_shown
  by_cases h0 : X 8 1 = 0
  · rw [if_pos (show (nI (X 8 0), nI (X 8 1)).2 = 0 by show nI (X 8 1) = 0; rw [h0]; rfl), if_pos (show (q1, q2, nI (X 8 1), q4, q5, q6, q7, q8, q9, q10, q11).2.2.1 = 0 by show nI (X 8 1) = 0; rw [h0]; rfl)]
    exact ⟨_, _, _, rfl, rfl, X, tx, un, tc, ts, te, s, pv, fs, fe, D, hX, hc, hq, hT, hD, hM, hP⟩
  · rw [if_neg (show ¬ (nI (X 8 0), nI (X 8 1)).2 = 0 from zn0 h0 (by omega)), if_neg (show ¬ (q1, q2, nI (X 8 1), q4, q5, q6, q7, q8, q9, q10, q11).2.2.1 = 0 from zn0 h0 (by omega))]
    obtain ⟨hs, hR, hn⟩ := hM.2 (by omega)
    rcases grp_c (F := F) (N := X 8 0) (by omega) a (nI (X 8 1)) (0, q2, nI (X 8 1), q4, q5, q6, q7, q8, q9, q10, q11) hq.1 with ⟨g, hg, rfl, e1, e2⟩ | ⟨-, e1, e2⟩
    · obtain ⟨now', g5, g6⟩ := pq_take hF (0, q2, nI (X 8 1), q4, q5, q6, q7, q8, q9, q10, q11) zQ_machine zQ_now
      have hq2 : qX X (0, q2, nI (X 8 1), q4, q5, q6, q7, q8, q9, q10, q11) zQ_clashes zQ_between zQ_least zQ_most zQ_phases zQ_groups zQ_shortest zQ_longestOf := hq
      have g7 := pq_shown hF hX hq2 hs.1 hs.2.2.2.1 hs.2.2.1 (fun i hi => (g6 i hi).trans (hn i hi))
      rw [e1, pn_bd, if_neg (show ¬ (1 : Int32) = 0 by decide), lit_c hF hX hc hs hR, pn_bd]
      show ∃ r zQ' now', _ ∧ gk_bd (m_X7_isGroup F (nI g) (0, q2, nI (X 8 1), q4, q5, q6, q7, q8, q9, q10, q11)) _ = _ ∧ _
      rw [e2, pn_bd, if_neg (show ¬ (1 : Int32) = 0 by decide)]
      show ∃ r zQ' now', _ ∧ gk_bd (m_X7_take F (0, q2, nI (X 8 1), q4, q5, q6, q7, q8, q9, q10, q11) zQ_machine zQ_now) _ = _ ∧ _
      rw [g5, pn_bd]
      show ∃ r zQ' now'', _ ∧ gk_bd (m_X7_shownNow F (0, q2, nI (X 8 1), q4, q5, q6, q7, q8, q9, q10, q11) zQ_groups now') _ = _ ∧ _
      rw [g7, pn_bd]
      exact ⟨_, _, _, rfl, rfl, X, tx, un, tc, ts, te, s, pv, fs, fe, D, hX, hc, hq, hT, hD, hM, hP⟩
    · rw [e1, pn_bd, if_pos rfl]
      show ∃ r zQ' now', _ ∧ gk_bd (m_X7_isGroup F a (0, q2, nI (X 8 1), q4, q5, q6, q7, q8, q9, q10, q11)) _ = _ ∧ _
      rw [e2, pn_bd, if_pos rfl]
      exact ⟨_, _, _, rfl, rfl, X, tx, un, tc, ts, te, s, pv, fs, fe, D, hX, hc, hq, hT, hD, hM, hP⟩
theorem op_told {F : Nat} (hF : 2000 ≤ F) {zS : Int32} {zX : Int32 × Int32} {zX_clashing : Nat → Int32} {zX_between : Nat → Int32} {zX_leastTimes : Nat → Int32} {zX_mostTimes : Nat → Int32} {zX_phases : Nat → Int32} {zX_members : Nat → Int32} {zX_shortest : Nat → Int32} {zX_longestTimes : Nat → Int32} {zS_text : Int32 × Int32} {zS_text_signs : Nat → Int32} {zS_text_members : Nat → Int32} {zS_text_shortest : Nat → Int32} {zS_text_longestTimes : Nat → Int32} {zS_diary : Int32} {zS_diary_seconds : Nat → Int32} {zS_diary_events : Nat → Int32} {zS_machine : Int32 × Int32 × Int32 × Int32 × Int32 × Int32 × Int32 × Int32} {zS_machine_ages : Nat → Int32} {zS_trial : Int32 × Int32 × Int32 × Int32 × Int32 × Int32 × Int32 × Int32} {zS_trial_ages : Nat → Int32} {zS_proof : Int32 × Int32 × Int32 × Int32 × Int32 × Int64} {zS_proof_longestWaits : Nat → Int32} {zS_proof_machine : Int32 × Int32 × Int32 × Int32 × Int32 × Int32 × Int32 × Int32} {zS_proof_machine_ages : Nat → Int32} {zS_proof_graph_nexts : Nat → Int32} {zS_proof_graph_unfollowed : Nat → Int32} {zS_proof_graph_depths : Nat → Int32} {zS_proof_graph_queue : Nat → Int32} {zS_proof_keys : Nat → Int64} {zS_proof_parents : Nat → Int32} {zS_proof_events : Nat → Int32} {zS_proof_slots : Nat → Int32} {zS_proof_path : Nat → Int32} {zQ : Int32 × Int32 × Int32 × Int32 × Int32 × Int32 × Int32 × Int32 × Int32 × Int32 × Int32} {zQ_clashes : Nat → Int32} {zQ_between : Nat → Int32} {zQ_least : Nat → Int32} {zQ_most : Nat → Int32} {zQ_phases : Nat → Int32} {zQ_groups : Nat → Int32} {zQ_shortest : Nat → Int32} {zQ_longestOf : Nat → Int32} {zQ_text : Nat → Int32} {zQ_tellSecond : Nat → Int32} {zQ_tellEvent : Nat → Int32} {zQ_machine : Nat → Int32} {zQ_now : Nat → Int32} {zQ_kept : Nat → Int32} {zQ_states : Nat → Int32} {zQ_cameFrom : Nat → Int32} {zQ_cameBy : Nat → Int32} {zQ_leads : Nat → Int32} {zQ_rowEvents : Nat → Int32} {zQ_waits : Nat → Int32} (h : INV zS zX zX_clashing zX_between zX_leastTimes zX_mostTimes zX_phases zX_members zX_shortest zX_longestTimes zS_text zS_text_signs zS_text_members zS_text_shortest zS_text_longestTimes zS_diary zS_diary_seconds zS_diary_events zS_machine zS_machine_ages zS_trial zS_trial_ages zS_proof zS_proof_longestWaits zS_proof_machine zS_proof_machine_ages zS_proof_graph_nexts zS_proof_graph_unfollowed zS_proof_graph_depths zS_proof_graph_queue zS_proof_keys zS_proof_parents zS_proof_events zS_proof_slots zS_proof_path zQ zQ_clashes zQ_between zQ_least zQ_most zQ_phases zQ_groups zQ_shortest zQ_longestOf zQ_text zQ_tellSecond zQ_tellEvent zQ_machine zQ_now zQ_kept zQ_states zQ_cameFrom zQ_cameBy zQ_leads zQ_rowEvents zQ_waits) (a : Int32) : ∃ r zQ' now', m_X6_told F a zS zX zX_members zS_machine zS_machine_ages zS_proof zS_proof_keys zS_proof_slots = some r ∧ m_X7_told F a zQ zQ_groups zQ_machine zQ_now zQ_states = some (r, (zQ', now')) ∧ INV zS zX zX_clashing zX_between zX_leastTimes zX_mostTimes zX_phases zX_members zX_shortest zX_longestTimes zS_text zS_text_signs zS_text_members zS_text_shortest zS_text_longestTimes zS_diary zS_diary_seconds zS_diary_events zS_machine zS_machine_ages zS_trial zS_trial_ages zS_proof zS_proof_longestWaits zS_proof_machine zS_proof_machine_ages zS_proof_graph_nexts zS_proof_graph_unfollowed zS_proof_graph_depths zS_proof_graph_queue zS_proof_keys zS_proof_parents zS_proof_events zS_proof_slots zS_proof_path zQ' zQ_clashes zQ_between zQ_least zQ_most zQ_phases zQ_groups zQ_shortest zQ_longestOf zQ_text zQ_tellSecond zQ_tellEvent zQ_machine now' zQ_kept zQ_states zQ_cameFrom zQ_cameBy zQ_leads zQ_rowEvents zQ_waits := by
  obtain ⟨X, tx, un, tc, ts, te, s, pv, fs, fe, D, hX, hc, hq, hT, hD, hM, hP⟩ := h
  obtain ⟨q1, q2, q3, q4, q5, q6, q7, q8, q9, q10, q11⟩ := zQ
  have hN := hX.2.1
  have hPn := hX.2.2.1
  obtain rfl := hc.1
  obtain rfl : q2 = nI (X 8 0) := hq.1
  obtain rfl : q3 = nI (X 8 1) := hq.2.1
  obtain rfl : zS = q6 := hM.1
  unfold m_X6_told m_X7_told m_X2_look
  have hI : ∀ now', INV zS ((nI (X 8 0), nI (X 8 1))) zX_clashing zX_between zX_leastTimes zX_mostTimes zX_phases zX_members zX_shortest zX_longestTimes zS_text zS_text_signs zS_text_members zS_text_shortest zS_text_longestTimes zS_diary zS_diary_seconds zS_diary_events zS_machine zS_machine_ages zS_trial zS_trial_ages zS_proof zS_proof_longestWaits zS_proof_machine zS_proof_machine_ages zS_proof_graph_nexts zS_proof_graph_unfollowed zS_proof_graph_depths zS_proof_graph_queue zS_proof_keys zS_proof_parents zS_proof_events zS_proof_slots zS_proof_path ((0, nI (X 8 0), nI (X 8 1), q4, q5, zS, q7, q8, q9, q10, q11)) zQ_clashes zQ_between zQ_least zQ_most zQ_phases zQ_groups zQ_shortest zQ_longestOf zQ_text zQ_tellSecond zQ_tellEvent zQ_machine now' zQ_kept zQ_states zQ_cameFrom zQ_cameBy zQ_leads zQ_rowEvents zQ_waits := fun now' => ⟨X, tx, un, tc, ts, te, s, pv, fs, fe, D, hX, hc, hq, hT, hD, hM, hP⟩
  by_cases h0 : X 8 1 = 0
  · rw [if_pos (show (nI (X 8 0), nI (X 8 1)).2 = 0 by show nI (X 8 1) = 0; rw [h0]; rfl), if_pos (show (q1, nI (X 8 0), nI (X 8 1), q4, q5, zS, q7, q8, q9, q10, q11).2.2.1 = 0 by show nI (X 8 1) = 0; rw [h0]; rfl)]
    exact ⟨_, _, _, rfl, rfl, hI _⟩
  · rw [if_neg (show ¬ (nI (X 8 0), nI (X 8 1)).2 = 0 from zn0 h0 (by omega)), if_neg (show ¬ (q1, nI (X 8 0), nI (X 8 1), q4, q5, zS, q7, q8, q9, q10, q11).2.2.1 = 0 from zn0 h0 (by omega))]
    obtain ⟨hs, hR, hn⟩ := hM.2 (by omega)
    have hb := sV_b hX hs
    obtain ⟨⟨bg, cs, rfl⟩, hag⟩ := id hR
    by_cases c0 : a < 0
    · rw [if_pos c0]
      have hne : ∀ k, k < 9 → ¬ a = nI k := fun k hk hh => nI_pos (n := k) (by omega) (hh ▸ c0)
      rw [if_neg (show ¬ a = 0 from hne 0 (by omega)), if_neg (show ¬ a = 8 from hne 8 (by omega)), if_neg (show ¬ a = 1 from hne 1 (by omega)), if_neg (show ¬ a = 2 from hne 2 (by omega)), if_neg (show ¬ a = 3 from hne 3 (by omega)), if_neg (show ¬ a = 4 from hne 4 (by omega)), if_neg (show ¬ a = 5 from hne 5 (by omega)), if_neg (show ¬ a = 6 from hne 6 (by omega)), if_neg (show ¬ a = 7 from hne 7 (by omega)), if_pos (show a < 9 from Int32.lt_trans c0 (by decide))]
      exact ⟨_, _, _, rfl, rfl, hI _⟩
    · obtain ⟨v, hv, rfl⟩ := nI_of c0
      rw [if_neg c0]
      have e9 : (8 : Int32) + nI (X 8 0) = nI (8 + X 8 0) := nI_add 8 _
      by_cases c1 : v ≤ 8 + X 8 0
      · obtain ⟨now', g5, g6⟩ := pq_take hF (0, nI (X 8 0), nI (X 8 1), q4, q5, zS, q7, q8, q9, q10, q11) zQ_machine zQ_now
        have g7 : qN s now' := fun i hi => (g6 i hi).trans (hn i hi)
        have hq2 : qX X (0, nI (X 8 0), nI (X 8 1), q4, q5, zS, q7, q8, q9, q10, q11) zQ_clashes zQ_between zQ_least zQ_most zQ_phases zQ_groups zQ_shortest zQ_longestOf := hq
        rw [if_pos (show nI v ≤ 8 + nI (X 8 0) by rw [e9]; exact nI_le c1 (by omega))]
        show ∃ r zQ' now', _ ∧ gk_bd (m_X7_take F (0, nI (X 8 0), nI (X 8 1), q4, q5, zS, q7, q8, q9, q10, q11) zQ_machine zQ_now) _ = _ ∧ _
        rw [g5, pn_bd]
        have hv : v = 0 ∨ v = 1 ∨ v = 2 ∨ v = 3 ∨ v = 4 ∨ v = 5 ∨ v = 6 ∨ v = 7 ∨ v = 8 ∨ 9 ≤ v := by omega
        rcases hv with rfl | rfl | rfl | rfl | rfl | rfl | rfl | rfl | rfl | hv
        · exact ⟨_, _, _, rfl, rfl, hI _⟩
        · refine ⟨nI (s 0), _, _, ?_, congrArg (fun x => some (x, _)) (g7 0 (by omega)), hI _⟩
          show some (nI (5 * s 0 + s 1) / nI 5) = _
          rw [pk_div (show 5 * s 0 + s 1 < 2 ^ 31 by have := hb.1; omega) (by omega) (by omega), show (5 * s 0 + s 1) / 5 = s 0 by have := hb.2.2.2.2.2.2.2.2.2.2.2.2.1; omega]
        · refine ⟨nI (s 1), _, _, ?_, congrArg (fun x => some (x, _)) (g7 1 (by omega)), hI _⟩
          show some (nI (5 * s 0 + s 1) - nI (5 * s 0 + s 1) / nI 5 * nI 5) = _
          rw [pk_rem (show 5 * s 0 + s 1 < 2 ^ 31 by have := hb.1; omega) (by omega) (by omega), show (5 * s 0 + s 1) % 5 = s 1 by have := hb.2.2.2.2.2.2.2.2.2.2.2.2.1; omega]
        · exact ⟨nI (s 2), _, _, rfl, congrArg (fun x => some (x, _)) (g7 2 (by omega)), hI _⟩
        · exact ⟨nI (s 3), _, _, rfl, congrArg (fun x => some (x, _)) (g7 3 (by omega)), hI _⟩
        · exact ⟨nI (s 6), _, _, rfl, congrArg (fun x => some (x, _)) (g7 6 (by omega)), hI _⟩
        · exact ⟨nI (s 7), _, _, rfl, congrArg (fun x => some (x, _)) (g7 7 (by omega)), hI _⟩
        · have g8 := pq_shown hF hX hq2 hs.1 hs.2.2.2.1 hs.2.2.1 g7
          refine ⟨nI (sLit X s), _, _, ?_, (congrArg (fun x => gk_bd x (fun v19 => some (v19, (_, _)))) g8).trans rfl, hI _⟩
          show gk_bd (gk_bd (m_X2_lit F _ _ _) _) _ = _
          rw [lit_c hF hX hc hs hR, pn_bd, pn_bd]
        · obtain ⟨r, -, g8, g9⟩ := find_same hF hX hP hs
          refine ⟨r, _, _, ?_, (congrArg (fun x => gk_bd x (fun v21 => some (v21, (_, _)))) (g9 _ now' rfl g7)).trans rfl, hI _⟩
          show gk_bd (m_X2_packed F _ _) _ = _
          rw [pc_pack hF hb hR, pn_bd, g8, pn_bd]
        · have hne : ∀ k, k < 9 → ¬ nI v = nI k := fun k hk hh => by have := (nI_eq (by omega) (by omega)).mp hh; omega
          rw [if_neg (show ¬ nI v = 0 from hne 0 (by omega)), if_neg (show ¬ nI v = 8 from hne 8 (by omega)), if_neg (show ¬ nI v = 1 from hne 1 (by omega)), if_neg (show ¬ nI v = 2 from hne 2 (by omega)), if_neg (show ¬ nI v = 3 from hne 3 (by omega)), if_neg (show ¬ nI v = 4 from hne 4 (by omega)), if_neg (show ¬ nI v = 5 from hne 5 (by omega)), if_neg (show ¬ nI v = 6 from hne 6 (by omega)), if_neg (show ¬ nI v = 7 from hne 7 (by omega)), if_neg (show ¬ nI v < 9 from nI_nlt (b := 9) hv (by omega))]
          rw [if_neg (show ¬ nI v = 0 from hne 0 (by omega)), if_neg (show ¬ nI v = 1 from hne 1 (by omega)), if_neg (show ¬ nI v = 2 from hne 2 (by omega)), if_neg (show ¬ nI v = 3 from hne 3 (by omega)), if_neg (show ¬ nI v = 4 from hne 4 (by omega)), if_neg (show ¬ nI v = 5 from hne 5 (by omega)), if_neg (show ¬ nI v = 6 from hne 6 (by omega)), if_neg (show ¬ nI v = 7 from hne 7 (by omega)), if_neg (show ¬ nI v = 8 from hne 8 (by omega))]
          have e1 : nI v - 9 = nI (v - 9) := pk_sub (b := 9) hv
          have e2 : (8 + nI v) - 9 = nI (8 + (v - 9)) := by rw [show (8 : Int32) + nI v = nI (8 + v) from nI_add 8 v, show nI (8 + v) - 9 = nI (8 + v - 9) from pk_sub (b := 9) (by omega), show 8 + v - 9 = 8 + (v - 9) by omega]
          rw [e1, e2, if_neg (show ¬ (nI (X 8 0), nI (X 8 1)).1 ≤ nI (v - 9) from nI_ge (by omega) (by omega)), pn_ck (by omega) (by omega), pn_ck (by omega) (by omega), nI_clamp (by omega), nI_clamp (by omega), pn_bd]
          exact ⟨nI (s (8 + (v - 9))), _, _, congrArg some (hag _ (by omega)), congrArg (fun x => some (x, _)) (g7 _ (by omega)), hI _⟩
      · rw [if_neg (show ¬ nI v ≤ 8 + nI (X 8 0) by rw [e9]; exact nI_ge (by omega) (by omega))]
        have hne : ∀ k, k < 9 → ¬ nI v = nI k := fun k hk hh => by have := (nI_eq (by omega) (by omega)).mp hh; omega
        rw [if_neg (show ¬ nI v = 0 from hne 0 (by omega)), if_neg (show ¬ nI v = 8 from hne 8 (by omega)), if_neg (show ¬ nI v = 1 from hne 1 (by omega)), if_neg (show ¬ nI v = 2 from hne 2 (by omega)), if_neg (show ¬ nI v = 3 from hne 3 (by omega)), if_neg (show ¬ nI v = 4 from hne 4 (by omega)), if_neg (show ¬ nI v = 5 from hne 5 (by omega)), if_neg (show ¬ nI v = 6 from hne 6 (by omega)), if_neg (show ¬ nI v = 7 from hne 7 (by omega)), if_neg (show ¬ nI v < 9 from nI_nlt (b := 9) (by omega) (by omega))]
        have e1 : nI v - 9 = nI (v - 9) := pk_sub (b := 9) (by omega)
        rw [e1, if_pos (show (nI (X 8 0), nI (X 8 1)).1 ≤ nI (v - 9) from nI_le (by omega) (by omega))]
        exact ⟨_, _, _, rfl, rfl, hI _⟩
