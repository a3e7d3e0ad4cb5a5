/-! the same again; how many seconds from one to another -/
theorem op_same {F : Nat} (hF : 2000 ≤ F) {zS : Int32} {zX : Int32 × Int32} {zX_clashing : Nat → Int32} {zX_between : Nat → Int32} {zX_leastTimes : Nat → Int32} {zX_mostTimes : Nat → Int32} {zX_phases : Nat → Int32} {zX_members : Nat → Int32} {zX_shortest : Nat → Int32} {zX_longestTimes : Nat → Int32} {zS_text : Int32 × Int32} {zS_text_signs : Nat → Int32} {zS_text_members : Nat → Int32} {zS_text_shortest : Nat → Int32} {zS_text_longestTimes : Nat → Int32} {zS_diary : Int32} {zS_diary_seconds : Nat → Int32} {zS_diary_events : Nat → Int32} {zS_machine : Int32 × Int32 × Int32 × Int32 × Int32 × Int32 × Int32 × Int32} {zS_machine_ages : Nat → Int32} {zS_trial : Int32 × Int32 × Int32 × Int32 × Int32 × Int32 × Int32 × Int32} {zS_trial_ages : Nat → Int32} {zS_proof : Int32 × Int32 × Int32 × Int32 × Int32 × Int64} {zS_proof_longestWaits : Nat → Int32} {zS_proof_machine : Int32 × Int32 × Int32 × Int32 × Int32 × Int32 × Int32 × Int32} {zS_proof_machine_ages : Nat → Int32} {zS_proof_graph_nexts : Nat → Int32} {zS_proof_graph_unfollowed : Nat → Int32} {zS_proof_graph_depths : Nat → Int32} {zS_proof_graph_queue : Nat → Int32} {zS_proof_keys : Nat → Int64} {zS_proof_parents : Nat → Int32} {zS_proof_events : Nat → Int32} {zS_proof_slots : Nat → Int32} {zS_proof_path : Nat → Int32} {zQ : Int32 × Int32 × Int32 × Int32 × Int32 × Int32 × Int32 × Int32 × Int32 × Int32 × Int32} {zQ_clashes : Nat → Int32} {zQ_between : Nat → Int32} {zQ_least : Nat → Int32} {zQ_most : Nat → Int32} {zQ_phases : Nat → Int32} {zQ_groups : Nat → Int32} {zQ_shortest : Nat → Int32} {zQ_longestOf : Nat → Int32} {zQ_text : Nat → Int32} {zQ_tellSecond : Nat → Int32} {zQ_tellEvent : Nat → Int32} {zQ_machine : Nat → Int32} {zQ_now : Nat → Int32} {zQ_kept : Nat → Int32} {zQ_states : Nat → Int32} {zQ_cameFrom : Nat → Int32} {zQ_cameBy : Nat → Int32} {zQ_leads : Nat → Int32} {zQ_rowEvents : Nat → Int32} {zQ_waits : Nat → Int32} (h : INV zS zX zX_clashing zX_between zX_leastTimes zX_mostTimes zX_phases zX_members zX_shortest zX_longestTimes zS_text zS_text_signs zS_text_members zS_text_shortest zS_text_longestTimes zS_diary zS_diary_seconds zS_diary_events zS_machine zS_machine_ages zS_trial zS_trial_ages zS_proof zS_proof_longestWaits zS_proof_machine zS_proof_machine_ages zS_proof_graph_nexts zS_proof_graph_unfollowed zS_proof_graph_depths zS_proof_graph_queue zS_proof_keys zS_proof_parents zS_proof_events zS_proof_slots zS_proof_path zQ zQ_clashes zQ_between zQ_least zQ_most zQ_phases zQ_groups zQ_shortest zQ_longestOf zQ_text zQ_tellSecond zQ_tellEvent zQ_machine zQ_now zQ_kept zQ_states zQ_cameFrom zQ_cameBy zQ_leads zQ_rowEvents zQ_waits) (a : Int32) : ∃ r zt' za' zQ' now' kept', m_X6_same F a zS zX zX_clashing zX_between zX_leastTimes zX_mostTimes zX_phases zX_members zX_shortest zX_longestTimes zS_diary zS_diary_seconds zS_diary_events zS_machine zS_machine_ages zS_trial zS_trial_ages zS_proof zS_proof_keys zS_proof_slots = some (r, (zt', za')) ∧ m_X7_same F a zQ zQ_clashes zQ_between zQ_least zQ_most zQ_phases zQ_groups zQ_shortest zQ_longestOf zQ_tellSecond zQ_tellEvent zQ_machine zQ_now zQ_kept zQ_states = some (r, (zQ', now', kept')) ∧ INV zS zX zX_clashing zX_between zX_leastTimes zX_mostTimes zX_phases zX_members zX_shortest zX_longestTimes zS_text zS_text_signs zS_text_members zS_text_shortest zS_text_longestTimes zS_diary zS_diary_seconds zS_diary_events zS_machine zS_machine_ages zt' za' zS_proof zS_proof_longestWaits zS_proof_machine zS_proof_machine_ages zS_proof_graph_nexts zS_proof_graph_unfollowed zS_proof_graph_depths zS_proof_graph_queue zS_proof_keys zS_proof_parents zS_proof_events zS_proof_slots zS_proof_path zQ' zQ_clashes zQ_between zQ_least zQ_most zQ_phases zQ_groups zQ_shortest zQ_longestOf zQ_text zQ_tellSecond zQ_tellEvent zQ_machine now' kept' zQ_states zQ_cameFrom zQ_cameBy zQ_leads zQ_rowEvents zQ_waits := by
  obtain ⟨X, tx, un, tc, ts, te, s, pv, fs, fe, D, hX, hc, hq, hT, hD, hM, hP⟩ := h
  obtain ⟨q1, q2, q3, q4, q5, q6, q7, q8, q9, q10, q11⟩ := zQ
  obtain ⟨z1, z2, z3, z4, z5, z6⟩ := zS_proof
  have hN := hX.2.1
  have hPn := hX.2.2.1
  obtain rfl := hc.1
  obtain rfl : q2 = nI (X 8 0) := hq.1
  obtain rfl : q3 = nI (X 8 1) := hq.2.1
  obtain rfl : zS = q6 := hM.1
  have hI : ∀ zt' za' now' kept', INV zS ((nI (X 8 0), nI (X 8 1))) zX_clashing zX_between zX_leastTimes zX_mostTimes zX_phases zX_members zX_shortest zX_longestTimes zS_text zS_text_signs zS_text_members zS_text_shortest zS_text_longestTimes zS_diary zS_diary_seconds zS_diary_events zS_machine zS_machine_ages zt' za' ((z1, z2, z3, z4, z5, z6)) zS_proof_longestWaits zS_proof_machine zS_proof_machine_ages zS_proof_graph_nexts zS_proof_graph_unfollowed zS_proof_graph_depths zS_proof_graph_queue zS_proof_keys zS_proof_parents zS_proof_events zS_proof_slots zS_proof_path ((0, nI (X 8 0), nI (X 8 1), q4, q5, zS, q7, q8, q9, q10, q11)) zQ_clashes zQ_between zQ_least zQ_most zQ_phases zQ_groups zQ_shortest zQ_longestOf zQ_text zQ_tellSecond zQ_tellEvent zQ_machine now' kept' zQ_states zQ_cameFrom zQ_cameBy zQ_leads zQ_rowEvents zQ_waits := fun zt' za' now' kept' => ⟨X, tx, un, tc, ts, te, s, pv, fs, fe, D, hX, hc, hq, hT, hD, hM, hP⟩
  unfold m_X6_same m_X7_same
  have hno : ∃ r zt' za' zQ' now' kept', some ((0 : Int32), (zS_trial, zS_trial_ages)) = some (r, (zt', za')) ∧ some ((0 : Int32), (((0 : Int32), nI (X 8 0), nI (X 8 1), q4, q5, zS, q7, q8, q9, q10, q11), zQ_now, zQ_kept)) = some (r, (zQ', now', kept')) ∧ INV zS ((nI (X 8 0), nI (X 8 1))) zX_clashing zX_between zX_leastTimes zX_mostTimes zX_phases zX_members zX_shortest zX_longestTimes zS_text zS_text_signs zS_text_members zS_text_shortest zS_text_longestTimes zS_diary zS_diary_seconds zS_diary_events zS_machine zS_machine_ages zt' za' ((z1, z2, z3, z4, z5, z6)) zS_proof_longestWaits zS_proof_machine zS_proof_machine_ages zS_proof_graph_nexts zS_proof_graph_unfollowed zS_proof_graph_depths zS_proof_graph_queue zS_proof_keys zS_proof_parents zS_proof_events zS_proof_slots zS_proof_path zQ' zQ_clashes zQ_between zQ_least zQ_most zQ_phases zQ_groups zQ_shortest zQ_longestOf zQ_text zQ_tellSecond zQ_tellEvent zQ_machine now' kept' zQ_states zQ_cameFrom zQ_cameBy zQ_leads zQ_rowEvents zQ_waits := ⟨_, _, _, _, _, _, rfl, rfl, hI _ _ _ _⟩
  by_cases h0 : X 8 1 = 0
  · rw [if_pos (show (nI (X 8 0), nI (X 8 1)).2 = 0 by show nI (X 8 1) = 0; rw [h0]; rfl), if_pos (show (q1, nI (X 8 0), nI (X 8 1), q4, q5, zS, q7, q8, q9, q10, q11).2.2.1 = 0 by show nI (X 8 1) = 0; rw [h0]; rfl)]
    exact hno
  rw [if_neg (show ¬ (nI (X 8 0), nI (X 8 1)).2 = 0 from zn0 h0 (by omega)), if_neg (show ¬ (q1, nI (X 8 0), nI (X 8 1), q4, q5, zS, q7, q8, q9, q10, q11).2.2.1 = 0 from zn0 h0 (by omega))]
  have hcs : (z1 = 0 ∧ q7 = -1) ∨ (¬ z1 = 0 ∧ ¬ q7 = -1) := by
    rcases hP with ⟨-, h1, -, -, h2, -⟩ | ⟨h0, -, h1, -, h2, -, -, ⟨lim, hl, hw⟩, -⟩
    · exact Or.inl ⟨h1, h2⟩
    · have h1 : z1 = nI D.1 := h1
      have h2 : q7 = nI pv := h2
      have h3 := hw.1
      rw [h1, h2]
      exact Or.inr ⟨zn0 (by omega) (by omega), fun hh => nI_pos (n := pv) (by omega) (hh ▸ by decide)⟩
  rcases hcs with ⟨c1, c2⟩ | ⟨c1, c2⟩
  · rw [if_pos (show (z1, z2, z3, z4, z5, z6).1 = 0 from c1), if_pos (show (q1, nI (X 8 0), nI (X 8 1), q4, q5, zS, q7, q8, q9, q10, q11).2.2.2.2.2.2.1 = -1 from c2)]
    exact hno
  rw [if_neg (show ¬ (z1, z2, z3, z4, z5, z6).1 = 0 from c1), if_neg (show ¬ (q1, nI (X 8 0), nI (X 8 1), q4, q5, zS, q7, q8, q9, q10, q11).2.2.2.2.2.2.1 = -1 from c2)]
  by_cases d1 : a < 0
  · rw [if_pos d1, if_pos d1]; exact hno
  by_cases d2 : a ≤ 100
  rotate_left
  · rw [if_neg d1, if_neg d1, if_neg d2, if_neg d2]; exact hno
  rw [if_neg d1, if_neg d1, if_pos d2, if_pos d2]
  obtain ⟨n, hn, rfl⟩ := nI_of2 (x := a) (M := 100) (n := 100) (by decide) d1 d2
  obtain ⟨hs, hR, hqn⟩ := hM.2 (by omega)
  have hb := sV_b hX hs
  obtain ⟨zt1, za1, g1, g2⟩ := pc_unpack hF zS_trial zS_trial_ages hb
  obtain ⟨now1, g3, g4⟩ := pq_take hF (0, nI (X 8 0), nI (X 8 1), q4, q5, zS, q7, q8, q9, q10, q11) zQ_machine zQ_now
  have g5 : qN s now1 := fun i hi => (g4 i hi).trans (hqn i hi)
  have hq2 : qX X (0, nI (X 8 0), nI (X 8 1), q4, q5, zS, q7, q8, q9, q10, q11) zQ_clashes zQ_between zQ_least zQ_most zQ_phases zQ_groups zQ_shortest zQ_longestOf := hq
  obtain ⟨r1, hr1, g6, g7⟩ := find_same hF hX hP hs
  rw [pc_pack hF hb hR, pn_bd, g1, pn_bd]
  show ∃ r zt' za' zQ' now' kept', gk_bd (m_X2_packed F zt1 za1) _ = _ ∧ gk_bd (m_X7_take F (0, nI (X 8 0), nI (X 8 1), q4, q5, zS, q7, q8, q9, q10, q11) zQ_machine zQ_now) _ = _ ∧ _
  rw [pc_pack hF hb g2, pn_bd, g6, pn_bd, g3, pn_bd]
  show ∃ r zt' za' zQ' now' kept', _ ∧ gk_bd (m_X7_find F (0, nI (X 8 0), nI (X 8 1), q4, q5, zS, q7, q8, q9, q10, q11) now1 zQ_states) _ = _ ∧ _
  rw [g7 (0, nI (X 8 0), nI (X 8 1), q4, q5, zS, q7, q8, q9, q10, q11) now1 rfl g5, pn_bd]
  unfold m_X7_same_J48
  have hz : ∀ (m k : Nat) (nw kp : Nat → Int32), m_X7_same_L51 F zQ_clashes zQ_between zQ_least zQ_most zQ_phases zQ_groups zQ_shortest zQ_longestOf zQ_tellSecond zQ_tellEvent zQ_machine zQ_states (m + 1) (nI n) 0 (nI k) (0, nI (X 8 0), nI (X 8 1), q4, q5, zS, q7, q8, q9, q10, q11) nw kp = some (0, ((0, nI (X 8 0), nI (X 8 1), q4, q5, zS, q7, q8, q9, q10, q11), nw, kp)) := fun m k nw kp => by
    rw [u_X7_same_L51, if_pos (show (0 : Int32) = 0 from rfl), ite_self]
    rfl
  have key : ∀ (d k m m' : Nat) (t : Nat → Nat) (zt : Int32 × Int32 × Int32 × Int32 × Int32 × Int32 × Int32 × Int32) (za nw kp : Nat → Int32), k + d = n + 1 → d < m → d + 1 < m' → sV X t → cR t zt za → qN t nw → ∃ r zt' za' nw' kp', m_X6_same_L68 F zS (nI (X 8 0), nI (X 8 1)) zX_clashing zX_between zX_leastTimes zX_mostTimes zX_phases zX_members zX_shortest zX_longestTimes zS_diary zS_diary_seconds zS_diary_events zS_machine zS_machine_ages (z1, z2, z3, z4, z5, z6) zS_proof_keys zS_proof_slots m (nI n) (nI k) zt za = some (r, (zt', za')) ∧ m_X7_same_L51 F zQ_clashes zQ_between zQ_least zQ_most zQ_phases zQ_groups zQ_shortest zQ_longestOf zQ_tellSecond zQ_tellEvent zQ_machine zQ_states m' (nI n) 1 (nI k) (0, nI (X 8 0), nI (X 8 1), q4, q5, zS, q7, q8, q9, q10, q11) nw kp = some (r, ((0, nI (X 8 0), nI (X 8 1), q4, q5, zS, q7, q8, q9, q10, q11), nw', kp')) := by
    intro d
    induction d with
    | zero =>
      intro k m m' t zt za nw kp hk hm hm' ht hR hn
      obtain ⟨m, rfl⟩ : ∃ q, m = q + 1 := ⟨m - 1, by omega⟩
      obtain ⟨m', rfl⟩ : ∃ q, m' = q + 1 := ⟨m' - 1, by omega⟩
      rw [u_X6_same_L68, u_X7_same_L51, if_pos (show nI n < nI k from nI_lt (by omega) (by omega)), if_pos (show nI n < nI k from nI_lt (by omega) (by omega))]
      exact ⟨_, _, _, _, _, rfl, rfl⟩
    | succ d ih =>
      intro k m m' t zt za nw kp hk hm hm' ht hR hqn
      obtain ⟨m, rfl⟩ : ∃ q, m = q + 1 := ⟨m - 1, by omega⟩
      obtain ⟨m', rfl⟩ : ∃ q, m' = q + 1 := ⟨m' - 1, by omega⟩
      obtain ⟨e, he, f1, f2⟩ := ev_same hF hD (zS + nI k)
      obtain ⟨zt', za', f3, f4⟩ := pc_step hF hX hc ht he hR
      obtain ⟨nw', kp', f5, f6⟩ := pq_go (kept := kp) hF hX hq2 ht he hqn
      have hV := sV_go hX ht he
      obtain ⟨r2, hr2, f7, f8⟩ := find_same hF hX hP hV
      rw [u_X6_same_L68, u_X7_same_L51, if_neg (show ¬ nI n < nI k from nI_nlt (by omega) (by omega)), if_neg (show ¬ nI n < nI k from nI_nlt (by omega) (by omega)), if_neg (show ¬ (1 : Int32) = 0 by decide), f1, pn_bd, f3, pn_bd]
      show ∃ r zt' za' nw' kp', _ ∧ gk_bd (m_X7_eventOf F (zS + nI k) (0, nI (X 8 0), nI (X 8 1), q4, q5, zS, q7, q8, q9, q10, q11) zQ_tellSecond zQ_tellEvent) _ = _
      rw [f2 (0, nI (X 8 0), nI (X 8 1), q4, q5, zS, q7, q8, q9, q10, q11) hD.2.2.1, pn_bd, f5, pn_bd]
      unfold m_X7_same_J88 m_X7_same_J89
      rw [nI_1]
      have hfl := fault_le X e t
      obtain ⟨m'', hm''⟩ : ∃ q, m' = q + 1 := ⟨m' - 1, by omega⟩
      by_cases c : sFault X e t = 0
      · rw [if_pos (show (nI (sFault X e t), (zt', za')).1 = 0 by show nI (sFault X e t) = 0; rw [c]; rfl), if_pos (show (nI (sFault X e t), (nw', kp')).1 = 0 by show nI (sFault X e t) = 0; rw [c]; rfl)]
        show ∃ r zt'' za'' nw'' kp'', gk_bd (m_X2_packed F zt' za') _ = _ ∧ gk_bd (m_X7_find F (0, nI (X 8 0), nI (X 8 1), q4, q5, zS, q7, q8, q9, q10, q11) nw' zQ_states) _ = _
        rw [pc_pack hF (sV_b hX hV) f4, pn_bd, f7, pn_bd, f8 (0, nI (X 8 0), nI (X 8 1), q4, q5, zS, q7, q8, q9, q10, q11) nw' rfl f6, pn_bd]
        rcases hr2 with rfl | ⟨i, hi, rfl⟩
        · rw [if_pos rfl, if_pos (show (-1 : Int32) < 0 by decide), hm'']
          exact ⟨_, _, _, _, _, rfl, hz m'' (k + 1) _ _⟩
        · rw [if_neg (show ¬ nI i = -1 from fun hh => nI_pos (n := i) (by omega) (hh ▸ by decide)), if_neg (nI_pos (n := i) (by omega))]
          exact ih (k + 1) m m' (sGo X e t) zt' za' nw' kp' (by omega) (by omega) (by omega) hV f4 f6
      · rw [if_neg (show ¬ (nI (sFault X e t), (zt', za')).1 = 0 from zn0 c (by omega)), if_neg (show ¬ (nI (sFault X e t), (nw', kp')).1 = 0 from zn0 c (by omega)), hm'']
        exact ⟨_, _, _, _, _, rfl, hz m'' (k + 1) _ _⟩
  rcases hr1 with rfl | ⟨i, hi, rfl⟩
  · rw [if_pos rfl, if_pos (show (-1 : Int32) < 0 by decide)]
    obtain ⟨F', hF'⟩ : ∃ m, F = m + 1 := ⟨F - 1, by omega⟩
    have h9 := hz F' 1 now1 zQ_kept
    rw [← hF'] at h9
    exact ⟨_, _, _, _, _, _, rfl, h9, hI _ _ _ _⟩
  · rw [if_neg (show ¬ nI i = -1 from fun hh => nI_pos (n := i) (by omega) (hh ▸ by decide)), if_neg (nI_pos (n := i) (by omega))]
    obtain ⟨r, zt', za', nw', kp', k1, k2⟩ := key n 1 F F s zt1 za1 now1 zQ_kept (by omega) (by omega) (by omega) hs g2 g5
    exact ⟨_, _, _, _, _, _, k1, k2, hI _ _ _ _⟩
theorem op_from {F : Nat} {zS : Int32} {zX : Int32 × Int32} {zX_clashing : Nat → Int32} {zX_between : Nat → Int32} {zX_leastTimes : Nat → Int32} {zX_mostTimes : Nat → Int32} {zX_phases : Nat → Int32} {zX_members : Nat → Int32} {zX_shortest : Nat → Int32} {zX_longestTimes : Nat → Int32} {zS_text : Int32 × Int32} {zS_text_signs : Nat → Int32} {zS_text_members : Nat → Int32} {zS_text_shortest : Nat → Int32} {zS_text_longestTimes : Nat → Int32} {zS_diary : Int32} {zS_diary_seconds : Nat → Int32} {zS_diary_events : Nat → Int32} {zS_machine : Int32 × Int32 × Int32 × Int32 × Int32 × Int32 × Int32 × Int32} {zS_machine_ages : Nat → Int32} {zS_trial : Int32 × Int32 × Int32 × Int32 × Int32 × Int32 × Int32 × Int32} {zS_trial_ages : Nat → Int32} {zS_proof : Int32 × Int32 × Int32 × Int32 × Int32 × Int64} {zS_proof_longestWaits : Nat → Int32} {zS_proof_machine : Int32 × Int32 × Int32 × Int32 × Int32 × Int32 × Int32 × Int32} {zS_proof_machine_ages : Nat → Int32} {zS_proof_graph_nexts : Nat → Int32} {zS_proof_graph_unfollowed : Nat → Int32} {zS_proof_graph_depths : Nat → Int32} {zS_proof_graph_queue : Nat → Int32} {zS_proof_keys : Nat → Int64} {zS_proof_parents : Nat → Int32} {zS_proof_events : Nat → Int32} {zS_proof_slots : Nat → Int32} {zS_proof_path : Nat → Int32} {zQ : Int32 × Int32 × Int32 × Int32 × Int32 × Int32 × Int32 × Int32 × Int32 × Int32 × Int32} {zQ_clashes : Nat → Int32} {zQ_between : Nat → Int32} {zQ_least : Nat → Int32} {zQ_most : Nat → Int32} {zQ_phases : Nat → Int32} {zQ_groups : Nat → Int32} {zQ_shortest : Nat → Int32} {zQ_longestOf : Nat → Int32} {zQ_text : Nat → Int32} {zQ_tellSecond : Nat → Int32} {zQ_tellEvent : Nat → Int32} {zQ_machine : Nat → Int32} {zQ_now : Nat → Int32} {zQ_kept : Nat → Int32} {zQ_states : Nat → Int32} {zQ_cameFrom : Nat → Int32} {zQ_cameBy : Nat → Int32} {zQ_leads : Nat → Int32} {zQ_rowEvents : Nat → Int32} {zQ_waits : Nat → Int32} (h : INV zS zX zX_clashing zX_between zX_leastTimes zX_mostTimes zX_phases zX_members zX_shortest zX_longestTimes zS_text zS_text_signs zS_text_members zS_text_shortest zS_text_longestTimes zS_diary zS_diary_seconds zS_diary_events zS_machine zS_machine_ages zS_trial zS_trial_ages zS_proof zS_proof_longestWaits zS_proof_machine zS_proof_machine_ages zS_proof_graph_nexts zS_proof_graph_unfollowed zS_proof_graph_depths zS_proof_graph_queue zS_proof_keys zS_proof_parents zS_proof_events zS_proof_slots zS_proof_path zQ zQ_clashes zQ_between zQ_least zQ_most zQ_phases zQ_groups zQ_shortest zQ_longestOf zQ_text zQ_tellSecond zQ_tellEvent zQ_machine zQ_now zQ_kept zQ_states zQ_cameFrom zQ_cameBy zQ_leads zQ_rowEvents zQ_waits) (a b : Int64) (c : Int32) : ∃ r zQ', m_X6_from F a b c = some r ∧ m_X7_from F a b c zQ = some (r, zQ') ∧ INV zS zX zX_clashing zX_between zX_leastTimes zX_mostTimes zX_phases zX_members zX_shortest zX_longestTimes zS_text zS_text_signs zS_text_members zS_text_shortest zS_text_longestTimes zS_diary zS_diary_seconds zS_diary_events zS_machine zS_machine_ages zS_trial zS_trial_ages zS_proof zS_proof_longestWaits zS_proof_machine zS_proof_machine_ages zS_proof_graph_nexts zS_proof_graph_unfollowed zS_proof_graph_depths zS_proof_graph_queue zS_proof_keys zS_proof_parents zS_proof_events zS_proof_slots zS_proof_path zQ' zQ_clashes zQ_between zQ_least zQ_most zQ_phases zQ_groups zQ_shortest zQ_longestOf zQ_text zQ_tellSecond zQ_tellEvent zQ_machine zQ_now zQ_kept zQ_states zQ_cameFrom zQ_cameBy zQ_leads zQ_rowEvents zQ_waits := by
  obtain ⟨X, tx, un, tc, ts, te, s, pv, fs, fe, D, hX, hc, hq, hT, hD, hM, hP⟩ := h
  obtain ⟨q1, q2, q3, q4, q5, q6, q7, q8, q9, q10, q11⟩ := zQ
  have hI : INV zS zX zX_clashing zX_between zX_leastTimes zX_mostTimes zX_phases zX_members zX_shortest zX_longestTimes zS_text zS_text_signs zS_text_members zS_text_shortest zS_text_longestTimes zS_diary zS_diary_seconds zS_diary_events zS_machine zS_machine_ages zS_trial zS_trial_ages zS_proof zS_proof_longestWaits zS_proof_machine zS_proof_machine_ages zS_proof_graph_nexts zS_proof_graph_unfollowed zS_proof_graph_depths zS_proof_graph_queue zS_proof_keys zS_proof_parents zS_proof_events zS_proof_slots zS_proof_path ((0, q2, q3, q4, q5, q6, q7, q8, q9, q10, q11)) zQ_clashes zQ_between zQ_least zQ_most zQ_phases zQ_groups zQ_shortest zQ_longestOf zQ_text zQ_tellSecond zQ_tellEvent zQ_machine zQ_now zQ_kept zQ_states zQ_cameFrom zQ_cameBy zQ_leads zQ_rowEvents zQ_waits := ⟨X, tx, un, tc, ts, te, s, pv, fs, fe, D, hX, hc, hq, hT, hD, hM, hP⟩
  have hno : ∃ r zQ', some (-1 : Int32) = some r ∧ some ((-1 : Int32), ((0 : Int32), q2, q3, q4, q5, q6, q7, q8, q9, q10, q11)) = some (r, zQ') ∧ INV zS zX zX_clashing zX_between zX_leastTimes zX_mostTimes zX_phases zX_members zX_shortest zX_longestTimes zS_text zS_text_signs zS_text_members zS_text_shortest zS_text_longestTimes zS_diary zS_diary_seconds zS_diary_events zS_machine zS_machine_ages zS_trial zS_trial_ages zS_proof zS_proof_longestWaits zS_proof_machine zS_proof_machine_ages zS_proof_graph_nexts zS_proof_graph_unfollowed zS_proof_graph_depths zS_proof_graph_queue zS_proof_keys zS_proof_parents zS_proof_events zS_proof_slots zS_proof_path zQ' zQ_clashes zQ_between zQ_least zQ_most zQ_phases zQ_groups zQ_shortest zQ_longestOf zQ_text zQ_tellSecond zQ_tellEvent zQ_machine zQ_now zQ_kept zQ_states zQ_cameFrom zQ_cameBy zQ_leads zQ_rowEvents zQ_waits := ⟨_, _, rfl, rfl, hI⟩
  unfold m_X6_from m_X7_from
  by_cases c1 : lg_cmp a 0 < 0
  · rw [if_pos c1, if_pos c1]; exact hno
  by_cases c2 : 0 < lg_cmp a 1000
  · rw [if_neg c1, if_neg c1, if_pos c2, if_pos c2]; exact hno
  by_cases c3 : lg_cmp b 0 < 0
  · rw [if_neg c1, if_neg c1, if_neg c2, if_neg c2, if_pos c3, if_pos c3]; exact hno
  by_cases c4 : 0 < lg_cmp b 1000
  · rw [if_neg c1, if_neg c1, if_neg c2, if_neg c2, if_neg c3, if_neg c3, if_pos c4, if_pos c4]; exact hno
  by_cases c5 : c < 1
  · rw [if_neg c1, if_neg c1, if_neg c2, if_neg c2, if_neg c3, if_neg c3, if_neg c4, if_neg c4, if_pos c5, if_pos c5]; exact hno
  by_cases c6 : c ≤ 50
  rotate_left
  · rw [if_neg c1, if_neg c1, if_neg c2, if_neg c2, if_neg c3, if_neg c3, if_neg c4, if_neg c4, if_neg c5, if_neg c5, if_neg c6, if_neg c6]; exact hno
  rw [if_neg c1, if_neg c1, if_neg c2, if_neg c2, if_neg c3, if_neg c3, if_neg c4, if_neg c4, if_neg c5, if_neg c5, if_pos c6, if_pos c6]
  obtain ⟨w, hw, rfl⟩ := nI_of2 (x := c) (M := 50) (n := 50) (by decide) (fun h => c5 (Int32.lt_trans h (by decide))) c6
  have hw1 : 1 ≤ w := by
    rcases Nat.lt_or_ge w 1 with h | h
    · exact absurd (show nI w < 1 from nI_lt (b := 1) h (by omega)) c5
    · exact h
  have hlong : ∀ x : Int64, ¬ lg_cmp x 0 < 0 → ¬ 0 < lg_cmp x 1000 → ∃ u, u ≤ 1000 ∧ x = lN u := fun x h1 h2 => by
    obtain ⟨u, hu, rfl⟩ := pk_lOf (fun h => h1 ((lg_cmp_lt _ _).mpr h))
    refine ⟨u, ?_, rfl⟩
    rcases Nat.lt_or_ge 1000 u with h | h
    · exact absurd ((lg_cmp_gt _ _).mpr (show (1000 : Int64) < lN u from (pk_lLT (a := 1000) (by omega) hu).mpr h)) h2
    · exact h
  obtain ⟨u, hu, rfl⟩ := hlong a c1 c2
  obtain ⟨v, hv, rfl⟩ := hlong b c3 c4
  have e1 : (nI w).toInt64 = lN w := nI_l (by omega)
  have e2 : (((lN v).toInt32 + nI w) - 1) / nI w = nI ((v + w - 1) / w) := by rw [lN_i, nI_add, pl_1, pk_sub (by omega), pk_div (by omega) (by omega) (by omega)]
  have e3 : (lN u).toInt32 / nI w = nI (u / w) := by rw [lN_i, pk_div (by omega) (by omega) (by omega)]
  have e4 : ((lN v + lN w) - 1) / lN w = lN ((v + w - 1) / w) := by rw [lN_add, show (1 : Int64) = lN 1 from rfl, lN_sub (by omega), pk_lDiv (by omega) (by omega) (by omega)]
  have e5 : lN u / lN w = lN (u / w) := pk_lDiv (by omega) (by omega) (by omega)
  have l1 : (v + w - 1) / w ≤ v + w := Nat.le_trans (Nat.div_le_self _ _) (by omega)
  have l2 : u / w ≤ u := Nat.div_le_self _ _
  have d1 : ∀ {α : Type} (k : Option α), gk_dzL (lN w) k = k := fun k => if_neg (fun h => by have := (pk_lEQ (a := w) (b := 0) (by omega) (by omega)).mp h; omega)
  rw [e1, e2, e3, e4, e5, pn_dz hw1 (by omega), pn_dz hw1 (by omega), d1, d1]
  generalize (v + w - 1) / w = p at l1
  generalize u / w = q at l2
  have e6 : (lN p - lN q).toInt32 = nI p - nI q := by rw [lg_l2i_sub, lN_i, lN_i]
  rw [e6]
  by_cases hpq : p ≤ q
  · rw [if_pos (nI_le hpq (by omega))]
    by_cases hpq2 : p = q
    · subst hpq2
      rw [pk_sub (Nat.le_refl _), Nat.sub_self, if_pos (show (0 : Int32) ≤ nI 0 by decide)]
      exact ⟨_, _, rfl, rfl, hI⟩
    · rw [if_neg (show ¬ (0 : Int32) ≤ nI p - nI q from Int32.not_le.mpr (pk_sneg (by omega) (by omega)))]
      exact ⟨_, _, rfl, rfl, hI⟩
  · rw [if_neg (nI_ge (by omega) (by omega)), pk_sub (by omega), if_pos (show (0 : Int32) ≤ nI (p - q) from nI_pos' (by omega))]
    exact ⟨_, _, rfl, rfl, hI⟩
