/-! a plan is read -/
def xAdd (X : Nat → Nat → Nat) (tx : Nat → Nat) (un c : Nat) : Nat → Nat → Nat := fun a i =>
  if a = 8 then (if i = 1 then X 8 1 + 1 else X 8 i) else if a = 4 then (if i = X 8 1 then c else X 4 i) else if a = 5 then (if 5 * X 8 1 ≤ i then lBt tx un (X 8 0) (phS tx un (X 8 0) (i - 5 * X 8 1)) else X 5 i) else if a = 6 then (if 5 * X 8 1 ≤ i then phL tx un (X 8 0) (phS tx un (X 8 0) (i - 5 * X 8 1)) else X 6 i) else if a = 7 then (if 5 * X 8 1 ≤ i then phH tx un (X 8 0) (phS tx un (X 8 0) (i - 5 * X 8 1)) else X 7 i) else X a i
theorem xAdd_80 (X : Nat → Nat → Nat) (tx : Nat → Nat) (un c : Nat) : xAdd X tx un c 8 0 = X 8 0 := rfl
theorem xAdd_81 (X : Nat → Nat → Nat) (tx : Nat → Nat) (un c : Nat) : xAdd X tx un c 8 1 = X 8 1 + 1 := rfl
theorem xAdd_4n (X : Nat → Nat → Nat) (tx : Nat → Nat) (un c : Nat) : xAdd X tx un c 4 (X 8 1) = c := if_pos rfl
theorem xAdd_4o {X : Nat → Nat → Nat} {tx : Nat → Nat} {un c p : Nat} (h : p < X 8 1) : xAdd X tx un c 4 p = X 4 p := by
  show (if p = X 8 1 then c else X 4 p) = X 4 p
  rw [if_neg (by omega)]
theorem xAdd_5o {X : Nat → Nat → Nat} {tx : Nat → Nat} {un c i : Nat} (h : i < 5 * X 8 1) : xAdd X tx un c 5 i = X 5 i ∧ xAdd X tx un c 6 i = X 6 i ∧ xAdd X tx un c 7 i = X 7 i := by
  show (if 5 * X 8 1 ≤ i then lBt tx un (X 8 0) (phS tx un (X 8 0) (i - 5 * X 8 1)) else X 5 i) = X 5 i ∧ (if 5 * X 8 1 ≤ i then phL tx un (X 8 0) (phS tx un (X 8 0) (i - 5 * X 8 1)) else X 6 i) = X 6 i ∧ (if 5 * X 8 1 ≤ i then phH tx un (X 8 0) (phS tx un (X 8 0) (i - 5 * X 8 1)) else X 7 i) = X 7 i
  rw [if_neg (by omega), if_neg (by omega), if_neg (by omega)]
  exact ⟨rfl, rfl, rfl⟩
theorem xAdd_5n (X : Nat → Nat → Nat) (tx : Nat → Nat) (un c f : Nat) : xAdd X tx un c 5 (5 * X 8 1 + f) = lBt tx un (X 8 0) (phS tx un (X 8 0) f) ∧ xAdd X tx un c 6 (5 * X 8 1 + f) = phL tx un (X 8 0) (phS tx un (X 8 0) f) ∧ xAdd X tx un c 7 (5 * X 8 1 + f) = phH tx un (X 8 0) (phS tx un (X 8 0) f) := by
  have e : 5 * X 8 1 + f - 5 * X 8 1 = f := by omega
  show (if 5 * X 8 1 ≤ 5 * X 8 1 + f then lBt tx un (X 8 0) (phS tx un (X 8 0) (5 * X 8 1 + f - 5 * X 8 1)) else X 5 (5 * X 8 1 + f)) = _ ∧ (if 5 * X 8 1 ≤ 5 * X 8 1 + f then phL tx un (X 8 0) (phS tx un (X 8 0) (5 * X 8 1 + f - 5 * X 8 1)) else X 6 (5 * X 8 1 + f)) = _ ∧ (if 5 * X 8 1 ≤ 5 * X 8 1 + f then phH tx un (X 8 0) (phS tx un (X 8 0) (5 * X 8 1 + f - 5 * X 8 1)) else X 7 (5 * X 8 1 + f)) = _
  rw [if_pos (by omega), if_pos (by omega), if_pos (by omega), e]
  exact ⟨rfl, rfl, rfl⟩
theorem phO_num {tx : Nat → Nat} {un n k : Nat} (h : phO tx un n k = true) : phL tx un n k ≤ 15 ∧ phH tx un n k ≤ 31 := by
  unfold phO okN at h
  simp only [Bool.and_eq_true, decide_eq_true_eq] at h
  exact ⟨h.1.1.2.2, h.2.2⟩
theorem xG_add {X : Nat → Nat → Nat} (hX : xG X) {tx : Nat → Nat} {un c : Nat} (hp : X 8 1 < 3) (h1 : 1 ≤ c) (h5 : c ≤ 5) (hS : ∀ i, i < c → phS tx un (X 8 0) i ≤ un) (hO : ∀ i, i < c → phO tx un (X 8 0) (phS tx un (X 8 0) i) = true) : xG (xAdd X tx un c) := by
  obtain ⟨a1, a2, a3, a4, a5, a6, a7⟩ := hX
  refine ⟨a1, a2, by rw [xAdd_81]; omega, a4, a5, a6, fun p hpp => ?_⟩
  rw [xAdd_81] at hpp
  by_cases hh : p = X 8 1
  · subst hh
    rw [xAdd_4n]
    refine ⟨h1, h5, fun f hf => ?_⟩
    obtain ⟨b1, b2, b3⟩ := xAdd_5n X tx un c f
    rw [b1, b2, b3, xAdd_80]
    exact ⟨(lAt_le a2 (hS f hf)).2.2, phO_num (hO f hf)⟩
  · have hp2 : p < X 8 1 := by omega
    obtain ⟨c1, c2, c3⟩ := a7 p hp2
    rw [xAdd_4o hp2]
    refine ⟨c1, c2, fun f hf => ?_⟩
    obtain ⟨b1, b2, b3⟩ := xAdd_5o (X := X) (tx := tx) (un := un) (c := c) (i := 5 * p + f) (by omega)
    rw [b1, b2, b3, xAdd_80]
    exact c3 f hf
theorem cX_add {X : Nat → Nat → Nat} (hX : xG X) {tx : Nat → Nat} {un c : Nat} {cl be le mo ph me sh lo me' sh' lo' : Nat → Int32} (hc : cX X (nI (X 8 0), nI (X 8 1)) cl be le mo ph me sh lo) (h1 : ∀ i, i < 5 * X 8 1 → me' i = me i ∧ sh' i = sh i ∧ lo' i = lo i) (h2 : ∀ i, i < c → me' (5 * X 8 1 + i) = nI (lBt tx un (X 8 0) (phS tx un (X 8 0) i)) ∧ sh' (5 * X 8 1 + i) = nI (phL tx un (X 8 0) (phS tx un (X 8 0) i)) ∧ lo' (5 * X 8 1 + i) = nI (phH tx un (X 8 0) (phS tx un (X 8 0) i))) : cX (xAdd X tx un c) (nI (X 8 0), nI (X 8 1 + 1)) cl be le mo (upd ph (X 8 1) (nI c)) me' sh' lo' := by
  obtain ⟨a1, a2, a3, a4, a5, a6, a7⟩ := hc
  have hxg := hX.2.2.2.2.2.2
  refine ⟨rfl, a2, a3, a4, a5, fun p hp => ?_, fun p hp f hf => ?_⟩
  · rw [xAdd_81] at hp
    by_cases hh : p = X 8 1
    · subst hh; rw [xAdd_4n, upd_same]
    · rw [xAdd_4o (by omega), upd_ne hh]; exact a6 p (by omega)
  · rw [xAdd_81] at hp
    by_cases hh : p = X 8 1
    · subst hh
      rw [xAdd_4n] at hf
      obtain ⟨b1, b2, b3⟩ := xAdd_5n X tx un c f
      rw [b1, b2, b3]
      exact h2 f hf
    · have hp2 : p < X 8 1 := by omega
      rw [xAdd_4o hp2] at hf
      have := (hxg p hp2).2.1
      obtain ⟨b1, b2, b3⟩ := xAdd_5o (X := X) (tx := tx) (un := un) (c := c) (i := 5 * p + f) (by omega)
      obtain ⟨d1, d2, d3⟩ := h1 (5 * p + f) (by omega)
      rw [b1, b2, b3, d1, d2, d3]
      exact a7 p hp2 f hf
theorem qX_add {X : Nat → Nat → Nat} (hX : xG X) {tx : Nat → Nat} {un c : Nat} {zQ : QT} {cl be le mo ph me sh lo me' sh' lo' : Nat → Int32} (hc : qX X zQ cl be le mo ph me sh lo) (h1 : ∀ i, i < 5 * X 8 1 → me' i = me i ∧ sh' i = sh i ∧ lo' i = lo i) (h2 : ∀ i, i < c → me' (5 * X 8 1 + i) = nI (lBt tx un (X 8 0) (phS tx un (X 8 0) i)) ∧ sh' (5 * X 8 1 + i) = nI (phL tx un (X 8 0) (phS tx un (X 8 0) i)) ∧ lo' (5 * X 8 1 + i) = nI (phH tx un (X 8 0) (phS tx un (X 8 0) i))) (zR : QT) (hz1 : zR.2.1 = nI (X 8 0)) (hz2 : zR.2.2.1 = nI (X 8 1 + 1)) : qX (xAdd X tx un c) zR cl be le mo (upd ph (X 8 1) (nI c)) me' sh' lo' := by
  obtain ⟨a1, a0, a2, a3, a4, a5, a6, a7⟩ := hc
  have hxg := hX.2.2.2.2.2.2
  refine ⟨hz1, hz2, a2, a3, a4, a5, fun p hp => ?_, fun p hp f hf => ?_⟩
  · rw [xAdd_81] at hp
    by_cases hh : p = X 8 1
    · subst hh; rw [xAdd_4n, upd_same]
    · rw [xAdd_4o (by omega), upd_ne hh]; exact a6 p (by omega)
  · rw [xAdd_81] at hp
    by_cases hh : p = X 8 1
    · subst hh
      rw [xAdd_4n] at hf
      obtain ⟨b1, b2, b3⟩ := xAdd_5n X tx un c f
      rw [b1, b2, b3]
      exact h2 f hf
    · have hp2 : p < X 8 1 := by omega
      rw [xAdd_4o hp2] at hf
      have := (hxg p hp2).2.1
      obtain ⟨b1, b2, b3⟩ := xAdd_5o (X := X) (tx := tx) (un := un) (c := c) (i := 5 * p + f) (by omega)
      obtain ⟨d1, d2, d3⟩ := h1 (5 * p + f) (by omega)
      rw [b1, b2, b3, d1, d2, d3]
      exact a7 p hp2 f hf
theorem op_read {F : Nat} (hF : 2000 ≤ F) {zS : Int32} {zX : Int32 × Int32} {zX_clashing : Nat → Int32} {zX_between : Nat → Int32} {zX_leastTimes : Nat → Int32} {zX_mostTimes : Nat → Int32} {zX_phases : Nat → Int32} {zX_members : Nat → Int32} {zX_shortest : Nat → Int32} {zX_longestTimes : Nat → Int32} {zS_text : Int32 × Int32} {zS_text_signs : Nat → Int32} {zS_text_members : Nat → Int32} {zS_text_shortest : Nat → Int32} {zS_text_longestTimes : Nat → Int32} {zS_diary : Int32} {zS_diary_seconds : Nat → Int32} {zS_diary_events : Nat → Int32} {zS_machine : Int32 × Int32 × Int32 × Int32 × Int32 × Int32 × Int32 × Int32} {zS_machine_ages : Nat → Int32} {zS_trial : Int32 × Int32 × Int32 × Int32 × Int32 × Int32 × Int32 × Int32} {zS_trial_ages : Nat → Int32} {zS_proof : Int32 × Int32 × Int32 × Int32 × Int32 × Int64} {zS_proof_longestWaits : Nat → Int32} {zS_proof_machine : Int32 × Int32 × Int32 × Int32 × Int32 × Int32 × Int32 × Int32} {zS_proof_machine_ages : Nat → Int32} {zS_proof_graph_nexts : Nat → Int32} {zS_proof_graph_unfollowed : Nat → Int32} {zS_proof_graph_depths : Nat → Int32} {zS_proof_graph_queue : Nat → Int32} {zS_proof_keys : Nat → Int64} {zS_proof_parents : Nat → Int32} {zS_proof_events : Nat → Int32} {zS_proof_slots : Nat → Int32} {zS_proof_path : Nat → Int32} {zQ : Int32 × Int32 × Int32 × Int32 × Int32 × Int32 × Int32 × Int32 × Int32 × Int32 × Int32} {zQ_clashes : Nat → Int32} {zQ_between : Nat → Int32} {zQ_least : Nat → Int32} {zQ_most : Nat → Int32} {zQ_phases : Nat → Int32} {zQ_groups : Nat → Int32} {zQ_shortest : Nat → Int32} {zQ_longestOf : Nat → Int32} {zQ_text : Nat → Int32} {zQ_tellSecond : Nat → Int32} {zQ_tellEvent : Nat → Int32} {zQ_machine : Nat → Int32} {zQ_now : Nat → Int32} {zQ_kept : Nat → Int32} {zQ_states : Nat → Int32} {zQ_cameFrom : Nat → Int32} {zQ_cameBy : Nat → Int32} {zQ_leads : Nat → Int32} {zQ_rowEvents : Nat → Int32} {zQ_waits : Nat → Int32} (h : INV zS zX zX_clashing zX_between zX_leastTimes zX_mostTimes zX_phases zX_members zX_shortest zX_longestTimes zS_text zS_text_signs zS_text_members zS_text_shortest zS_text_longestTimes zS_diary zS_diary_seconds zS_diary_events zS_machine zS_machine_ages zS_trial zS_trial_ages zS_proof zS_proof_longestWaits zS_proof_machine zS_proof_machine_ages zS_proof_graph_nexts zS_proof_graph_unfollowed zS_proof_graph_depths zS_proof_graph_queue zS_proof_keys zS_proof_parents zS_proof_events zS_proof_slots zS_proof_path zQ zQ_clashes zQ_between zQ_least zQ_most zQ_phases zQ_groups zQ_shortest zQ_longestOf zQ_text zQ_tellSecond zQ_tellEvent zQ_machine zQ_now zQ_kept zQ_states zQ_cameFrom zQ_cameBy zQ_leads zQ_rowEvents zQ_waits) : ∃ r zS' zX' c5 c6 c7 c8 zT' t1 t2 t3 zD' zM' ag' zP' sl' zQ' p5 p6 p7 p8 mac' now', m_X6_read F zS zX zX_phases zX_members zX_shortest zX_longestTimes zS_text zS_text_signs zS_text_members zS_text_shortest zS_text_longestTimes zS_diary zS_machine zS_machine_ages zS_proof zS_proof_slots = some (r, (zS', zX', c5, c6, c7, c8, zT', t1, t2, t3, zD', zM', ag', zP', sl')) ∧
    m_X7_read F zQ zQ_phases zQ_groups zQ_shortest zQ_longestOf zQ_text zQ_machine zQ_now = some (r, (zQ', p5, p6, p7, p8, mac', now')) ∧
    INV zS' zX' zX_clashing zX_between zX_leastTimes zX_mostTimes c5 c6 c7 c8 zT' zS_text_signs t1 t2 t3 zD' zS_diary_seconds zS_diary_events zM' ag' zS_trial zS_trial_ages zP' zS_proof_longestWaits zS_proof_machine zS_proof_machine_ages zS_proof_graph_nexts zS_proof_graph_unfollowed zS_proof_graph_depths zS_proof_graph_queue zS_proof_keys zS_proof_parents zS_proof_events sl' zS_proof_path zQ' zQ_clashes zQ_between zQ_least zQ_most p5 p6 p7 p8 zQ_text zQ_tellSecond zQ_tellEvent mac' now' zQ_kept zQ_states zQ_cameFrom zQ_cameBy zQ_leads zQ_rowEvents zQ_waits := by
  obtain ⟨X, tx, un, tc, ts, te, s, pv, fs, fe, D, hX, hc, hq, ⟨hT1, hT2, hT3, hT4⟩, hD, hM, hP⟩ := h
  obtain ⟨q1, q2, q3, q4, q5, q6, q7, q8, q9, q10, q11⟩ := zQ
  have hN := hX.2.1
  have hPn := hX.2.2.1
  obtain rfl := hc.1
  obtain rfl : q2 = nI (X 8 0) := hq.1
  obtain rfl : q3 = nI (X 8 1) := hq.2.1
  obtain ⟨t1, t2⟩ := zS_text
  obtain rfl : t1 = nI un := hT1
  obtain rfl : q4 = nI un := hT3
  obtain ⟨z2', mb', so', lo', e1, e2, e3⟩ := pc_parse hF hT2 hN 5 0 F t2 zS_text_members zS_text_shortest zS_text_longestTimes (by omega) (by omega) (Nat.zero_le _) (fun i hi => by omega)
  obtain ⟨f', x2', x3', x4', q11', gr', qs', ql', g1, g2, g3, g4⟩ := pq_read hF hT4 hN hPn 0 q5 q6 q7 q8 q9 q10 zQ_phases zQ_machine zQ_now zQ_groups zQ_shortest zQ_longestOf 5 0 F (nI un) q11 zQ_groups zQ_shortest zQ_longestOf (by omega) (by omega) (by omega) (fun i hi => by cases Nat.le_zero.mp hi; exact Nat.zero_le _) ⟨fun i _ _ => ⟨rfl, rfl, rfl⟩, fun _ i hi => by omega⟩
  have e1 : m_X3_parse F (nI (X 8 0)) (nI un, t2) zS_text_signs zS_text_members zS_text_shortest zS_text_longestTimes = _ := e1
  have g1 : m_X7_read F (q1, nI (X 8 0), nI (X 8 1), nI un, q5, q6, q7, q8, q9, q10, q11) zQ_phases zQ_groups zQ_shortest zQ_longestOf zQ_text zQ_machine zQ_now = _ := g1
  rw [g1]
  unfold m_X6_read
  show ∃ r zS' zX' c5 c6 c7 c8 zT' t1 t2 t3 zD' zM' ag' zP' sl' zQ' p5 p6 p7 p8 mac' now', gk_bd (m_X3_parse F (nI (X 8 0)) (nI un, _) zS_text_signs zS_text_members zS_text_shortest zS_text_longestTimes) _ = _ ∧ _
  rw [e1, pn_bd]
  have hun := hT2.1
  have hqs : ∀ zR : QT, zR.2.1 = nI (X 8 0) → zR.2.2.1 = nI (X 8 1) → qX X zR zQ_clashes zQ_between zQ_least zQ_most zQ_phases gr' qs' ql' := fun zR hz1 hz2 => by
    obtain ⟨a1, a0, a2, a3, a4, a5, a6, a7⟩ := hq
    refine ⟨hz1, hz2, a2, a3, a4, a5, a6, fun p hp f hf => ?_⟩
    have := (hX.2.2.2.2.2.2 p hp).2.1
    obtain ⟨d1, d2, d3⟩ := g2.1 (5 * p + f) (by omega) (by omega)
    rw [d1, d2, d3]
    exact a7 p hp f hf
  have hI : ∀ z2 m1 m2 m3 q11, INV zS ((nI (X 8 0), nI (X 8 1))) zX_clashing zX_between zX_leastTimes zX_mostTimes zX_phases zX_members zX_shortest zX_longestTimes ((0, z2)) zS_text_signs m1 m2 m3 zS_diary zS_diary_seconds zS_diary_events zS_machine zS_machine_ages zS_trial zS_trial_ages zS_proof zS_proof_longestWaits zS_proof_machine zS_proof_machine_ages zS_proof_graph_nexts zS_proof_graph_unfollowed zS_proof_graph_depths zS_proof_graph_queue zS_proof_keys zS_proof_parents zS_proof_events zS_proof_slots zS_proof_path ((0, nI (X 8 0), nI (X 8 1), 0, q5, q6, q7, q8, q9, q10, q11)) zQ_clashes zQ_between zQ_least zQ_most zQ_phases gr' qs' ql' zQ_text zQ_tellSecond zQ_tellEvent zQ_machine zQ_now zQ_kept zQ_states zQ_cameFrom zQ_cameBy zQ_leads zQ_rowEvents zQ_waits := fun z2 m1 m2 m3 q11 => ⟨X, tx, 0, tc, ts, te, s, pv, fs, fe, D, hX, hc, hqs _ rfl rfl, ⟨rfl, ⟨Nat.zero_le _, fun i hi => by omega⟩, rfl, Nat.zero_le _, fun i hi => by omega⟩, hD, hM, hP⟩
  revert g2 g3 g4 e2 e3
  show _ → _ → _ → _ → _ → _
  generalize paR tx un (X 8 0) 5 0 (phS tx un (X 8 0) 0) = R
  obtain ⟨ok, v⟩ := R
  intro e2 e3 g2 g3 g4
  have e3 : v ≤ 60 := e3
  cases ok
  · have g4 : x2' = nI v := g4 rfl
    subst g4
    show ∃ r zS' zX' c5 c6 c7 c8 zT' t1 t2 t3 zD' zM' ag' zP' sl' zQ' p5 p6 p7 p8 mac' now', (if -nI (v + 1) ≤ 0 then m_X6_read_J51 F zS_text_signs (-nI (v + 1)) zS (nI (X 8 0), nI (X 8 1)) zX_phases zX_members zX_shortest zX_longestTimes (nI un, z2') mb' so' lo' zS_diary zS_machine zS_machine_ages zS_proof zS_proof_slots else _) = _ ∧ m_X7_read_L23 F zQ_text (f' + 1) (nI un) (nI v) x3' x4' 0 0 (0, nI (X 8 0), nI (X 8 1), nI un, q5, q6, q7, q8, q9, q10, q11') zQ_phases gr' qs' ql' zQ_machine zQ_now = _ ∧ _
    have hneg : -nI (v + 1) ≤ 0 := by
      rw [← m1_sub]
      have : (-1 : Int32) - nI v < 0 := by
        have h9 := pk_sneg (a := 0) (b := v + 1) (by omega) (by omega)
        rw [show nI 0 - nI (v + 1) = -1 - nI v by rw [m1_sub]; exact Int32.zero_sub _] at h9
        exact h9
      exact Int32.le_of_lt this
    rw [if_pos hneg, u_X7_read_L23, if_pos (show (0 : Int32) = 0 from rfl), if_pos (show (0 : Int32) = 0 from rfl)]
    unfold m_X7_read_J213 m_X6_read_J51
    rw [if_pos (show (0 : Int32) = 0 from rfl), m1_sub]
    exact ⟨_, _, _, _, _, _, _, _, _, _, _, _, _, _, _, _, _, _, _, _, _, _, _, rfl, rfl, hI _ _ _ _ _⟩
  · obtain ⟨⟨b1, b2⟩, b3⟩ := e2 rfl
    obtain ⟨b4, b5⟩ := g3 rfl
    have b1 : 1 ≤ v := b1
    have b2 : v ≤ 5 := b2
    have b4 : x3' = nI v := b4
    subst b4
    have b3 : ∀ i, i < v → mb' i = nI (lBt tx un (X 8 0) (phS tx un (X 8 0) i)) ∧ so' i = nI (phL tx un (X 8 0) (phS tx un (X 8 0) i)) ∧ lo' i = nI (phH tx un (X 8 0) (phS tx un (X 8 0) i)) ∧ phO tx un (X 8 0) (phS tx un (X 8 0) i) = true := b3
    have b5 : ∀ i, i < v → phS tx un (X 8 0) i ≤ un := b5
    have g2 : rI tx un (X 8 0) (X 8 1) zQ_groups zQ_shortest zQ_longestOf v gr' qs' ql' := g2
    show ∃ r zS' zX' c5 c6 c7 c8 zT' t1 t2 t3 zD' zM' ag' zP' sl' zQ' p5 p6 p7 p8 mac' now', (if nI v ≤ 0 then _ else gk_bd (m_X0_addPlan F (nI v) (nI (X 8 0), nI (X 8 1)) zX_phases zX_members zX_shortest zX_longestTimes (nI un, z2') mb' so' lo') _) = _ ∧ m_X7_read_L23 F zQ_text (f' + 1) (nI un) x2' (nI v) x4' 0 1 (0, nI (X 8 0), nI (X 8 1), nI un, q5, q6, q7, q8, q9, q10, q11') zQ_phases gr' qs' ql' zQ_machine zQ_now = _ ∧ _
    rw [if_neg (nI_nle b1 (by omega)), u_X7_read_L23, if_pos (show (0 : Int32) = 0 from rfl), if_neg (show ¬ (1 : Int32) = 0 by decide)]
    by_cases h3 : X 8 1 = 3
    · rw [if_pos (show (0, nI (X 8 0), nI (X 8 1), nI un, q5, q6, q7, q8, q9, q10, q11').2.2.1 = 3 by show nI (X 8 1) = 3; rw [h3]; rfl)]
      unfold m_X0_addPlan m_X7_read_J213
      rw [if_neg (show ¬ (nI (X 8 0), nI (X 8 1)).2 < 3 from nI_nlt (b := 3) (by omega) (by omega)), pn_bd, if_pos (show ((0 : Int32), ((nI (X 8 0), nI (X 8 1)), zX_phases, zX_members, zX_shortest, zX_longestTimes)).1 = 0 from rfl), if_neg (show ¬ (1 : Int32) = 0 by decide)]
      unfold m_X6_read_J51
      exact ⟨_, _, _, _, _, _, _, _, _, _, _, _, _, _, _, _, _, _, _, _, _, _, _, rfl, rfl, hI _ _ _ _ _⟩
    · have hp3 : X 8 1 < 3 := by omega
      rw [if_neg (show ¬ (0, nI (X 8 0), nI (X 8 1), nI un, q5, q6, q7, q8, q9, q10, q11').2.2.1 = 3 from fun h => h3 ((nI_eq (b := 3) (by omega) (by omega)).mp h))]
      obtain ⟨me', sh', ln', k1, k2, k3⟩ := pc_addp hF hN hp3 b2 zX_phases zX_members zX_shortest zX_longestTimes (nI un, z2') mb' so' lo'
      have hX' := xG_add hX hp3 b1 b2 b5 (fun i hi => (b3 i hi).2.2.2)
      have hc' := cX_add (c := v) hX hc k2 (fun i hi => by obtain ⟨r1, r2, r3⟩ := k3 i hi; obtain ⟨r4, r5, r6, -⟩ := b3 i hi; exact ⟨r1.trans r4, r2.trans r5, r3.trans r6⟩)
      have hq' := qX_add (c := v) hX hq (fun i hi => g2.1 i hi (by omega)) (g2.2 hp3)
      obtain ⟨fd, hfd, h1, h2⟩ := iP_fd hP
      obtain ⟨z1, z2, z3, z4, z5, z6⟩ := zS_proof
      obtain rfl : z1 = nI fd := h1
      obtain ⟨zM', ag', sl', k4, k5, k6⟩ := pc_frun hF hX' hc' zS zS_diary zS_machine zS_machine_ages (z2 := z2) (z3 := z3) (z4 := z4) (z5 := z5) (z6 := z6) hfd h2
      obtain ⟨mac', now', k7, k8⟩ := pq_anew hF hX' 0 0 q5 q6 q7 q8 q9 q10 q11' (fun zR hz1 hz2 => hq' zR hz1 hz2) zQ_machine zQ_now
      have k7 : m_X7_anew F (0, nI (X 8 0), nI (X 8 1 + 1), 0, q5, q6, q7, q8, q9, q10, q11') gr' zQ_machine zQ_now = some ((0, nI (X 8 0), nI (X 8 1 + 1), 0, 0, 0, -1, 0, q9, q10, q11'), mac', now') := k7
      rw [k1, pn_bd, if_neg (show ¬ ((1 : Int32), ((nI (X 8 0), nI (X 8 1 + 1)), upd zX_phases (X 8 1) (nI v), me', sh', ln')).1 = 0 from show ¬ (1 : Int32) = 0 by decide)]
      show ∃ r zS' zX' c5 c6 c7 c8 zT' t1 t2 t3 zD' zM' ag' zP' sl' zQ' p5 p6 p7 p8 mac' now', gk_bd (m_X6_forgetRun F zS (nI (X 8 0), nI (X 8 1 + 1)) me' zS_diary zS_machine zS_machine_ages (nI fd, z2, z3, z4, z5, z6) zS_proof_slots) _ = _ ∧ gk_ck (nI (X 8 1)) 3 (gk_bd (m_X7_anew F (0, nI (X 8 0), nI (X 8 1) + 1, 0, q5, q6, q7, q8, q9, q10, q11') gr' zQ_machine zQ_now) (fun v20 => some (nI v, (v20.1, upd zQ_phases (nI (X 8 1)).toNatClampNeg (nI v), gr', qs', ql', v20.2.1, v20.2.2)))) = _ ∧ _
      rw [k4, pn_bd, pn_ck hp3 (by omega), nI_1, k7, pn_bd, nI_clamp (by omega)]
      unfold m_X6_read_J51
      have hp0 : 0 < xAdd X tx un v 8 1 := by rw [xAdd_81]; omega
      exact ⟨_, _, _, _, _, _, _, _, _, _, _, _, _, _, _, _, _, _, _, _, _, _, _, rfl, rfl, xAdd X tx un v, tx, 0, 0, ts, te, sIni (xAdd X tx un v), 3, fs, fe, D, hX', hc', hq' _ rfl rfl, ⟨rfl, ⟨Nat.zero_le _, fun i hi => by omega⟩, rfl, Nat.zero_le _, fun i hi => by omega⟩, ⟨rfl, Nat.zero_le _, rfl, fun i hi => by omega, fun i j hi => by omega⟩, ⟨rfl, fun _ => ⟨sV_ini hX' hp0, k5 hp0, k8 hp0⟩⟩, Or.inl ⟨rfl, rfl, rfl, k6, rfl, rfl⟩⟩
