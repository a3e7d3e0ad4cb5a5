/-! the proof over all states -/
theorem pc_waits {F : Nat} {X : Nat → Nat → Nat} {zX : Int32 × Int32} {cl be le mo ph me sh lo : Nat → Int32} (hF : 2000 ≤ F) (hX : xG X) (hc : cX X zX cl be le mo ph me sh lo) {lim : Nat} (hlim : lim ≤ 400) {D : BD} (hw : bW X lim D) {nx : Nat → Int32} (hx : dNx X D nx D.1 0) {ks : Nat → Int64} {pa ev sl : Nat → Int32} (hd : cD D (nI D.1) ks pa ev sl) (z3 z4 z5 : Int32) (z6 : Int64) (lw : Nat → Int32) (zm : Int32 × Int32 × Int32 × Int32 × Int32 × Int32 × Int32 × Int32) (za gu gd gq path : Nat → Int32) :
    ∃ lw' gu' gd' gq', m_X4_search_J72 F zX cl be le mo ph me sh lo (nI D.1, nI 1, z3, z4, z5, z6) lw zm za nx gu gd gq ks pa ev sl path = some (nI 1, ((nI D.1, nI 1, z3, z4, z5, z6), lw', zm, za, nx, gu', gd', gq', ks, pa, ev, sl, path)) ∧ ∀ g, g < X 8 0 → lgC D.1 (xE X) (fun i => (D.2.1 i 7).testBit g) D.2.2.2.2 (lw' g) := by
  have hE := xE_le hX
  have hN := hX.2.1
  have hPn := hX.2.2.1
  have hD := hw.1.2
  obtain rfl := hc.1
  unfold m_X4_search_J72
  rw [if_pos (show (nI D.1, nI 1, z3, z4, z5, z6).2.1 = 1 from rfl)]
  obtain ⟨n2, ⟨lw2, gu2, gd2, gq2⟩, e2, h2⟩ := lpA (α := (Nat → Int32) × (Nat → Int32) × (Nat → Int32) × (Nat → Int32)) (L := fun n k a => m_X4_search_L82 F (nI (X 8 0), nI (X 8 1)) cl be le mo ph me sh lo n (nI k) (nI D.1, nI 1, z3, z4, z5, z6) a.1 zm za nx a.2.1 a.2.2.1 a.2.2.2 ks pa ev sl path) (N := X 8 0) (Inv := fun k a => ∀ g, g < k → lgC D.1 (xE X) (fun i => (D.2.1 i 7).testBit g) D.2.2.2.2 (a.1 g)) (by
    intro n k ⟨lw1, gu1, gd1, gq1⟩ hk hi
    obtain ⟨r, gu', gd', gq', g1, g2⟩ := pc_chain hF (g := k) hE (Nat.le_trans hD hlim) (w := fun i => (D.2.1 i 7).testBit k) (nx := D.2.2.2.2) (fun s e hs he => (hx s e he (Or.inl hs)).2) (nz := nx) (fun s e hs he => (hx s e he (Or.inl hs)).1) (ks := ks) (fun i hi => by rw [hd.2.1 i hi]; exact pk_wait (by omega) (sV_b hX (hw.2.1 i hi))) gu1 gd1 gq1
    refine ⟨(upd lw1 k r, gu', gd', gq'), ?_, fun g h => ?_⟩
    · show m_X4_search_L82 F (nI (X 8 0), nI (X 8 1)) cl be le mo ph me sh lo (n + 1) (nI k) (nI D.1, nI 1, z3, z4, z5, z6) lw1 zm za nx gu1 gd1 gq1 ks pa ev sl path = m_X4_search_L82 F (nI (X 8 0), nI (X 8 1)) cl be le mo ph me sh lo n (nI (k + 1)) (nI D.1, nI 1, z3, z4, z5, z6) (upd lw1 k r) zm za nx gu' gd' gq' ks pa ev sl path
      rw [u_X4_search_L82, if_neg (show ¬ (nI (X 8 0), nI (X 8 1)).1 ≤ nI k from nI_ge hk (by omega))]
      unfold m_X0_eventCount
      rw [pn_bd, show ((1 : Int32) + (nI (X 8 0), nI (X 8 1)).1) + (nI (X 8 0), nI (X 8 1)).2 = nI (xE X) by show (1 : Int32) + nI (X 8 0) + nI (X 8 1) = _; rw [pl_1, nI_add, nI_add]; rfl]
      show gk_bd (m_X5_longestChain F (nI D.1) (nI (xE X)) (nI k) nx gu1 gd1 gq1 ks) _ = _
      rw [g1, pn_bd, pn_ck (by omega) (by omega), nI_clamp (by omega), nI_1]
    · by_cases hh : g = k
      · show lgC _ _ _ _ (upd lw1 k r g); rw [hh, upd_same]; exact g2
      · show lgC _ _ _ _ (upd lw1 k r g); rw [upd_ne hh]; exact hi g (by omega)) (X 8 0) F 0 (lw, gu, gd, gq) (by omega) (by omega) (fun i h => by omega)
  refine ⟨lw2, gu2, gd2, gq2, ?_, h2⟩
  have e2 : m_X4_search_L82 F (nI (X 8 0), nI (X 8 1)) cl be le mo ph me sh lo F 0 (nI D.1, nI 1, z3, z4, z5, z6) lw zm za nx gu gd gq ks pa ev sl path = m_X4_search_L82 F (nI (X 8 0), nI (X 8 1)) cl be le mo ph me sh lo (n2 + 1) (nI (X 8 0)) (nI D.1, nI 1, z3, z4, z5, z6) lw2 zm za nx gu2 gd2 gq2 ks pa ev sl path := e2
  rw [e2, u_X4_search_L82, if_pos (show (nI (X 8 0), nI (X 8 1)).1 ≤ nI (X 8 0) from nI_le (Nat.le_refl _) (by omega))]
theorem iP_fd {X : Nat → Nat → Nat} {pv fs fe : Nat} {D : BD} {zP : Int32 × Int32 × Int32 × Int32 × Int32 × Int64} {lw nx : Nat → Int32} {ks : Nat → Int64} {pa ev sl path : Nat → Int32} {zQ : QT} {st cf cb ld re : Nat → Int32} (hP : iP X pv fs fe D zP lw nx ks pa ev sl path zQ st cf cb ld re) : ∃ fd, fd ≤ 400 ∧ zP.1 = nI fd ∧ (fd = 0 → ∀ j, j < 1024 → sl j = nI 0) := by
  rcases hP with ⟨-, h1, -, h2, -⟩ | ⟨-, -, h1, -, -, -, -, ⟨lim, hl, hw⟩, -⟩
  · exact ⟨0, by omega, h1, fun _ => h2⟩
  · have h3 := hw.1
    exact ⟨D.1, by omega, h1, fun h => by omega⟩
def bD0 (X : Nat → Nat → Nat) : BD := (1, fun _ => sIni X, fun _ => 0, fun _ => 0, fun _ => 0)
theorem bW_0 {X : Nat → Nat → Nat} (hX : xG X) (hp : 0 < X 8 1) {lim : Nat} (hl : 1 ≤ lim) : bW X lim (bD0 X) := ⟨⟨Nat.le_refl _, hl⟩, fun _ _ => sV_ini hX hp, fun i j hi hj _ => by have hi : i < 1 := hi; have hj : j < 1 := hj; omega, rfl, fun i h1 h2 => by have h2 : i < 1 := h2; omega⟩
theorem pc_search {F : Nat} {X : Nat → Nat → Nat} {zX : Int32 × Int32} {cl be le mo ph me sh lo : Nat → Int32} (hF : 2000 ≤ F) (hX : xG X) (hc : cX X zX cl be le mo ph me sh lo) (hp : 0 < X 8 1) {lim : Nat} (hl : 1 ≤ lim) (hlim : lim ≤ 400) {fd : Nat} (z2 z3 z4 z5 : Int32) (z6 : Int64) (lw : Nat → Int32) (zm : Int32 × Int32 × Int32 × Int32 × Int32 × Int32 × Int32 × Int32) (za nx gu gd gq : Nat → Int32) (ks : Nat → Int64) (pa ev sl path : Nat → Int32) (hfd : fd ≤ 400) (h0 : fd = 0 → ∀ j, j < 1024 → sl j = nI 0) :
    ∃ z3' z4' z5' z6' zm' za' nx' ks' pa' ev' sl' path', m_X4_search F (nI lim) (nI fd, z2, z3, z4, z5, z6) lw zX cl be le mo ph me sh lo zm za nx gu gd gq ks pa ev sl path =
        m_X4_search_J72 F zX cl be le mo ph me sh lo (nI (bAll X lim (lim + 1) 0 (bD0 X)).2.2.2.1, nI (bAll X lim (lim + 1) 0 (bD0 X)).1, z3', z4', z5', z6') lw zm' za' nx' gu gd gq ks' pa' ev' sl' path' ∧
      cD (bAll X lim (lim + 1) 0 (bD0 X)).2.2.2 (nI (bAll X lim (lim + 1) 0 (bD0 X)).2.2.2.1) ks' pa' ev' sl' ∧ ((bAll X lim (lim + 1) 0 (bD0 X)).1 = 1 → dNx X (bAll X lim (lim + 1) 0 (bD0 X)).2.2.2 nx' (bAll X lim (lim + 1) 0 (bD0 X)).2.2.2.1 0) ∧
      ((bAll X lim (lim + 1) 0 (bD0 X)).1 = 0 → (bAll X lim (lim + 1) 0 (bD0 X)).2.2.1 < xE X ∧ sFault X (bAll X lim (lim + 1) 0 (bD0 X)).2.2.1 ((bAll X lim (lim + 1) 0 (bD0 X)).2.2.2.2.1 (bAll X lim (lim + 1) 0 (bD0 X)).2.1) ≠ 0 ∧ z3' = nI (dep (bAll X lim (lim + 1) 0 (bD0 X)).2.2.2.2.2.1 400 (bAll X lim (lim + 1) 0 (bD0 X)).2.1) ∧ z4' = nI (bAll X lim (lim + 1) 0 (bD0 X)).2.2.1 ∧ z5' = nI (sFault X (bAll X lim (lim + 1) 0 (bD0 X)).2.2.1 ((bAll X lim (lim + 1) 0 (bD0 X)).2.2.2.2.1 (bAll X lim (lim + 1) 0 (bD0 X)).2.1)) ∧ z6' = lN (pkN (sGo X (bAll X lim (lim + 1) 0 (bD0 X)).2.2.1 ((bAll X lim (lim + 1) 0 (bD0 X)).2.2.2.2.1 (bAll X lim (lim + 1) 0 (bD0 X)).2.1))) ∧ ∀ j, j < dep (bAll X lim (lim + 1) 0 (bD0 X)).2.2.2.2.2.1 400 (bAll X lim (lim + 1) 0 (bD0 X)).2.1 → path' j = nI (anc (bAll X lim (lim + 1) 0 (bD0 X)).2.2.2.2.2.1 (bAll X lim (lim + 1) 0 (bD0 X)).2.1 j)) := by
  have hsI := sV_ini hX hp
  have hb := sV_b hX hsI
  have hkl : pkN (sIni X) < 2 ^ 64 := Nat.lt_trans (pkN_lt hb) (by decide)
  obtain ⟨sl1, g1, g2⟩ := pc_forget hF (z2 := z2) (z3 := z3) (z4 := z4) (z5 := z5) (z6 := z6) hfd h0
  obtain ⟨zm1, za1, g3, g4⟩ := pc_reset hF hX hc zm za
  have g4 := g4 hp
  have g5 := pc_pack hF hb g4
  obtain ⟨sl2, v2, g6, g7, g8⟩ := pc_add hF (z2 := nI 3) (z3 := z3) (z4 := z4) (z5 := z5) (z6 := z6) (ks := ks) (pa := pa) (ev := ev) (sl := sl1) (K := fun _ => 0) (v := fun _ => 0) (fd := 0) (k := pkN (sIni X)) 0 0 (by omega) (fun i hi => by omega) g2 (HT_0 _) hkl (fun i hi => by omega)
  have hcd : cD (bD0 X) (nI (bD0 X).1) (vp_updL ks 0 (lN (pkN (sIni X)))) (upd pa 0 0) (upd ev 0 0) sl2 := by
    refine ⟨rfl, fun i hi => ?_, fun i hi => ?_, v2, g7, ?_⟩
    · obtain rfl : i = 0 := by have hi : i < 1 := hi; omega
      exact updL_same _ _ _
    · obtain rfl : i = 0 := by have hi : i < 1 := hi; omega
      exact ⟨upd_same _ _ _, upd_same _ _ _⟩
    · refine ⟨g8.1, fun i hi => ?_, g8.2.2⟩
      obtain rfl : i = 0 := by have hi : i < 1 := hi; omega
      exact g8.2.1 0 (by omega)
  obtain ⟨z3', z4', z5', z6', zm', za', nx', ks', pa', ev', sl', path', e1, r⟩ := pc_all hF hX hc hlim (lim + 1) F 0 (bD0 X) z3 z4 z5 z6 lw zm1 za1 nx gu gd gq (vp_updL ks 0 (lN (pkN (sIni X)))) (upd pa 0 0) (upd ev 0 0) sl2 path (by omega) (by omega) (Nat.zero_le _) (bW_0 hX hp hl) hcd (fun s' e' _ hh => by omega)
  refine ⟨z3', z4', z5', z6', zm', za', nx', ks', pa', ev', sl', path', ?_, r⟩
  unfold m_X4_search
  rw [g1, pn_bd]
  show gk_bd (m_X2_reset F zm zX me za) _ = _
  rw [g3, pn_bd]
  show gk_bd (m_X2_packed F zm1 za1) _ = _
  rw [g5, pn_bd]
  show gk_bd (m_X4_add F (lN (pkN (sIni X))) 0 0 (nI 0, nI 3, z3, z4, z5, z6) ks pa ev sl1) _ = _
  rw [g6, pn_bd]
  exact e1
theorem op_prove {F : Nat} (hF : 2000 ≤ F) {zS : Int32} {zX : Int32 × Int32} {zX_clashing : Nat → Int32} {zX_between : Nat → Int32} {zX_leastTimes : Nat → Int32} {zX_mostTimes : Nat → Int32} {zX_phases : Nat → Int32} {zX_members : Nat → Int32} {zX_shortest : Nat → Int32} {zX_longestTimes : Nat → Int32} {zS_text : Int32 × Int32} {zS_text_signs : Nat → Int32} {zS_text_members : Nat → Int32} {zS_text_shortest : Nat → Int32} {zS_text_longestTimes : Nat → Int32} {zS_diary : Int32} {zS_diary_seconds : Nat → Int32} {zS_diary_events : Nat → Int32} {zS_machine : Int32 × Int32 × Int32 × Int32 × Int32 × Int32 × Int32 × Int32} {zS_machine_ages : Nat → Int32} {zS_trial : Int32 × Int32 × Int32 × Int32 × Int32 × Int32 × Int32 × Int32} {zS_trial_ages : Nat → Int32} {zS_proof : Int32 × Int32 × Int32 × Int32 × Int32 × Int64} {zS_proof_longestWaits : Nat → Int32} {zS_proof_machine : Int32 × Int32 × Int32 × Int32 × Int32 × Int32 × Int32 × Int32} {zS_proof_machine_ages : Nat → Int32} {zS_proof_graph_nexts : Nat → Int32} {zS_proof_graph_unfollowed : Nat → Int32} {zS_proof_graph_depths : Nat → Int32} {zS_proof_graph_queue : Nat → Int32} {zS_proof_keys : Nat → Int64} {zS_proof_parents : Nat → Int32} {zS_proof_events : Nat → Int32} {zS_proof_slots : Nat → Int32} {zS_proof_path : Nat → Int32} {zQ : Int32 × Int32 × Int32 × Int32 × Int32 × Int32 × Int32 × Int32 × Int32 × Int32 × Int32} {zQ_clashes : Nat → Int32} {zQ_between : Nat → Int32} {zQ_least : Nat → Int32} {zQ_most : Nat → Int32} {zQ_phases : Nat → Int32} {zQ_groups : Nat → Int32} {zQ_shortest : Nat → Int32} {zQ_longestOf : Nat → Int32} {zQ_text : Nat → Int32} {zQ_tellSecond : Nat → Int32} {zQ_tellEvent : Nat → Int32} {zQ_machine : Nat → Int32} {zQ_now : Nat → Int32} {zQ_kept : Nat → Int32} {zQ_states : Nat → Int32} {zQ_cameFrom : Nat → Int32} {zQ_cameBy : Nat → Int32} {zQ_leads : Nat → Int32} {zQ_rowEvents : Nat → Int32} {zQ_waits : Nat → Int32} (h : INV zS zX zX_clashing zX_between zX_leastTimes zX_mostTimes zX_phases zX_members zX_shortest zX_longestTimes zS_text zS_text_signs zS_text_members zS_text_shortest zS_text_longestTimes zS_diary zS_diary_seconds zS_diary_events zS_machine zS_machine_ages zS_trial zS_trial_ages zS_proof zS_proof_longestWaits zS_proof_machine zS_proof_machine_ages zS_proof_graph_nexts zS_proof_graph_unfollowed zS_proof_graph_depths zS_proof_graph_queue zS_proof_keys zS_proof_parents zS_proof_events zS_proof_slots zS_proof_path zQ zQ_clashes zQ_between zQ_least zQ_most zQ_phases zQ_groups zQ_shortest zQ_longestOf zQ_text zQ_tellSecond zQ_tellEvent zQ_machine zQ_now zQ_kept zQ_states zQ_cameFrom zQ_cameBy zQ_leads zQ_rowEvents zQ_waits) (a : Int32) : ∃ r zP' lw' pm' pa' gn' gu' gd' gq' ks' pp' pe' sl' ph' zQ' now' kept' st' cf' cb' ld' re', m_X6_prove F a zS zX zX_clashing zX_between zX_leastTimes zX_mostTimes zX_phases zX_members zX_shortest zX_longestTimes zS_proof zS_proof_longestWaits zS_proof_machine zS_proof_machine_ages zS_proof_graph_nexts zS_proof_graph_unfollowed zS_proof_graph_depths zS_proof_graph_queue zS_proof_keys zS_proof_parents zS_proof_events zS_proof_slots zS_proof_path = some (r, (zP', lw', pm', pa', gn', gu', gd', gq', ks', pp', pe', sl', ph')) ∧
    m_X7_prove F a zQ zQ_clashes zQ_between zQ_least zQ_most zQ_phases zQ_groups zQ_shortest zQ_longestOf zQ_now zQ_kept zQ_states zQ_cameFrom zQ_cameBy zQ_leads zQ_rowEvents = some (r, (zQ', now', kept', st', cf', cb', ld', re')) ∧
    INV zS zX zX_clashing zX_between zX_leastTimes zX_mostTimes zX_phases zX_members zX_shortest zX_longestTimes zS_text zS_text_signs zS_text_members zS_text_shortest zS_text_longestTimes zS_diary zS_diary_seconds zS_diary_events zS_machine zS_machine_ages zS_trial zS_trial_ages zP' lw' pm' pa' gn' gu' gd' gq' ks' pp' pe' sl' ph' zQ' zQ_clashes zQ_between zQ_least zQ_most zQ_phases zQ_groups zQ_shortest zQ_longestOf zQ_text zQ_tellSecond zQ_tellEvent zQ_machine now' kept' st' cf' cb' ld' re' zQ_waits := by
  obtain ⟨X, tx, un, tc, ts, te, s, pv, fs, fe, D, hX, hc, hq, hT, hD, hM, hP⟩ := h
  obtain ⟨q1, q2, q3, q4, q5, q6, q7, q8, q9, q10, q11⟩ := zQ
  have hN := hX.2.1
  have hPn := hX.2.2.1
  obtain rfl := hc.1
  obtain rfl : q2 = nI (X 8 0) := hq.1
  obtain rfl : q3 = nI (X 8 1) := hq.2.1
  obtain ⟨fd, hfd, h1, h2⟩ := iP_fd hP
  obtain ⟨z1, z2, z3, z4, z5, z6⟩ := zS_proof
  obtain rfl : z1 = nI fd := h1
  unfold m_X6_prove m_X7_prove
  obtain ⟨sl1, g1, g2⟩ := pc_forget hF (z2 := z2) (z3 := z3) (z4 := z4) (z5 := z5) (z6 := z6) hfd h2
  have hno : ∃ r zP' lw' pm' pa' gn' gu' gd' gq' ks' pp' pe' sl' ph' zQ' now' kept' st' cf' cb' ld' re', m_X6_prove_J22 F zS (nI (X 8 0), nI (X 8 1)) zX_clashing zX_between zX_leastTimes zX_mostTimes zX_phases zX_members zX_shortest zX_longestTimes (nI fd, z2, z3, z4, z5, z6) zS_proof_longestWaits zS_proof_machine zS_proof_machine_ages zS_proof_graph_nexts zS_proof_graph_unfollowed zS_proof_graph_depths zS_proof_graph_queue zS_proof_keys zS_proof_parents zS_proof_events zS_proof_slots zS_proof_path = some (r, (zP', lw', pm', pa', gn', gu', gd', gq', ks', pp', pe', sl', ph')) ∧
    some ((-1 : Int32), (((0 : Int32), nI (X 8 0), nI (X 8 1), q4, q5, q6, (-1 : Int32), (0 : Int32), q9, q10, q11), zQ_now, zQ_kept, zQ_states, zQ_cameFrom, zQ_cameBy, zQ_leads, zQ_rowEvents)) = some (r, (zQ', now', kept', st', cf', cb', ld', re')) ∧
    INV zS ((nI (X 8 0), nI (X 8 1))) zX_clashing zX_between zX_leastTimes zX_mostTimes zX_phases zX_members zX_shortest zX_longestTimes zS_text zS_text_signs zS_text_members zS_text_shortest zS_text_longestTimes zS_diary zS_diary_seconds zS_diary_events zS_machine zS_machine_ages zS_trial zS_trial_ages zP' lw' pm' pa' gn' gu' gd' gq' ks' pp' pe' sl' ph' zQ' zQ_clashes zQ_between zQ_least zQ_most zQ_phases zQ_groups zQ_shortest zQ_longestOf zQ_text zQ_tellSecond zQ_tellEvent zQ_machine now' kept' st' cf' cb' ld' re' zQ_waits := by
    unfold m_X6_prove_J22
    rw [g1, pn_bd]
    exact ⟨_, _, _, _, _, _, _, _, _, _, _, _, _, _, _, _, _, _, _, _, _, _, rfl, rfl, X, tx, un, tc, ts, te, s, 3, fs, fe, D, hX, hc, hq, hT, hD, hM, Or.inl ⟨rfl, rfl, rfl, g2, rfl, rfl⟩⟩
  by_cases c1 : a < 1
  · rw [if_pos c1, if_pos c1]
    by_cases h0 : X 8 1 = 0
    · rw [if_pos (show (nI (X 8 0), nI (X 8 1)).2 = 0 by show nI (X 8 1) = 0; rw [h0]; rfl)]; exact hno
    · rw [if_neg (show ¬ (nI (X 8 0), nI (X 8 1)).2 = 0 from zn0 h0 (by omega))]; exact hno
  by_cases c2 : 400 < a
  · rw [if_neg c1, if_neg c1, if_pos c2, if_neg (show ¬ a ≤ 400 from Int32.not_le.mpr c2)]
    by_cases h0 : X 8 1 = 0
    · rw [if_pos (show (nI (X 8 0), nI (X 8 1)).2 = 0 by show nI (X 8 1) = 0; rw [h0]; rfl)]; exact hno
    · rw [if_neg (show ¬ (nI (X 8 0), nI (X 8 1)).2 = 0 from zn0 h0 (by omega))]; exact hno
  rw [if_neg c1, if_neg c1, if_neg c2]
  by_cases h0 : X 8 1 = 0
  · rw [if_pos (show (nI (X 8 0), nI (X 8 1)).2 = 0 by show nI (X 8 1) = 0; rw [h0]; rfl), if_pos (show (q1, nI (X 8 0), nI (X 8 1), q4, q5, q6, q7, q8, q9, q10, q11).2.2.1 = 0 by show nI (X 8 1) = 0; rw [h0]; rfl)]
    exact hno
  rw [if_neg (show ¬ (nI (X 8 0), nI (X 8 1)).2 = 0 from zn0 h0 (by omega)), if_neg (show ¬ (q1, nI (X 8 0), nI (X 8 1), q4, q5, q6, q7, q8, q9, q10, q11).2.2.1 = 0 from zn0 h0 (by omega)), if_pos (Int32.not_lt.mp c2)]
  obtain ⟨lim, hlim, rfl⟩ := nI_of2 (x := a) (M := 400) (n := 400) (by decide) (fun h => c1 (Int32.lt_trans h (by decide))) (Int32.not_lt.mp c2)
  have hl : 1 ≤ lim := by
    rcases Nat.lt_or_ge lim 1 with h | h
    · exact absurd (show nI lim < 1 from nI_lt (b := 1) h (by omega)) c1
    · exact h
  have hp : 0 < X 8 1 := by omega
  obtain ⟨z3', z4', z5', z6', zm', za', nx', ks', pa', ev', sl', path', e1, e2, e3, e4⟩ := pc_search hF hX hc hp hl hlim z2 z3 z4 z5 z6 zS_proof_longestWaits zS_proof_machine zS_proof_machine_ages zS_proof_graph_nexts zS_proof_graph_unfollowed zS_proof_graph_depths zS_proof_graph_queue zS_proof_keys zS_proof_parents zS_proof_events zS_proof_slots zS_proof_path hfd h2
  have hq2 : ∀ zR : QT, zR.2.1 = nI (X 8 0) → zR.2.2.1 = nI (X 8 1) → qX X zR zQ_clashes zQ_between zQ_least zQ_most zQ_phases zQ_groups zQ_shortest zQ_longestOf := fun zR h1 h2 => qX_any hq h1 h2
  obtain ⟨now1, g3, g4⟩ := pq_first (now := zQ_now) hF hX (hq2 (0, nI (X 8 0), nI (X 8 1), q4, q5, q6, -1, nI 0, nI (xE X), q10, q11) rfl rfl)
  rw [if_pos hp] at g4
  obtain ⟨st1, g5, g6, -⟩ := pq_add hF 0 (nI (X 8 0)) (nI (X 8 1)) q4 q5 q6 (-1) (nI (xE X)) q10 q11 0 0 now1 zQ_states zQ_cameFrom zQ_cameBy (fd := 0) (by omega)
  have hqd : qD (bD0 X) st1 (upd zQ_cameFrom 0 0) (upd zQ_cameBy 0 0) := by
    refine ⟨fun i hi k hk => ?_, fun i hi => ?_⟩
    · obtain rfl : i = 0 := by have hi : i < 1 := hi; omega
      exact (g6 k hk).trans (g4 k hk)
    · obtain rfl : i = 0 := by have hi : i < 1 := hi; omega
      exact ⟨upd_same _ _ _, upd_same _ _ _⟩
  obtain ⟨q10', now2, kept2, st2, cf2, cb2, ld2, re2, f1, f2, f3, f4, f5, f6⟩ := pq_all hF hX (hq2 (0, nI (X 8 0), nI (X 8 1), q4, q5, q6, -1, nI 0, nI (xE X), q10, q11) rfl rfl) hlim (lim + 1) F 0 (bD0 X) 0 q4 q5 q6 (-1) q10 q11 now1 zQ_kept st1 (upd zQ_cameFrom 0 0) (upd zQ_cameBy 0 0) zQ_leads zQ_rowEvents (by omega) (by omega) (Nat.zero_le _) (bW_0 hX hp hl) hqd (fun s' e' _ hh => by omega)
  have hr : ∃ r zP' lw' gu' gd' gq', m_X4_search F (nI lim) (nI fd, z2, z3, z4, z5, z6) zS_proof_longestWaits (nI (X 8 0), nI (X 8 1)) zX_clashing zX_between zX_leastTimes zX_mostTimes zX_phases zX_members zX_shortest zX_longestTimes zS_proof_machine zS_proof_machine_ages zS_proof_graph_nexts zS_proof_graph_unfollowed zS_proof_graph_depths zS_proof_graph_queue zS_proof_keys zS_proof_parents zS_proof_events zS_proof_slots zS_proof_path = some (r, (zP', lw', zm', za', nx', gu', gd', gq', ks', pa', ev', sl', path')) ∧ r = nI (bAll X lim (lim + 1) 0 (bD0 X)).1 ∧ zP' = (nI (bAll X lim (lim + 1) 0 (bD0 X)).2.2.2.1, nI (bAll X lim (lim + 1) 0 (bD0 X)).1, z3', z4', z5', z6') ∧ ((bAll X lim (lim + 1) 0 (bD0 X)).1 = 1 → ∀ g, g < X 8 0 → lgC (bAll X lim (lim + 1) 0 (bD0 X)).2.2.2.1 (xE X) (fun i => ((bAll X lim (lim + 1) 0 (bD0 X)).2.2.2.2.1 i 7).testBit g) (bAll X lim (lim + 1) 0 (bD0 X)).2.2.2.2.2.2.2 (lw' g)) := by
    by_cases hh : (bAll X lim (lim + 1) 0 (bD0 X)).1 = 1
    · obtain ⟨lw', gu', gd', gq', k1, k2⟩ := pc_waits hF hX hc hlim f2 (e3 hh) e2 z3' z4' z5' z6' zS_proof_longestWaits zm' za' zS_proof_graph_unfollowed zS_proof_graph_depths zS_proof_graph_queue path'
      refine ⟨_, _, lw', gu', gd', gq', ?_, rfl, rfl, fun _ => k2⟩
      rw [e1, hh]
      exact k1
    · refine ⟨_, _, zS_proof_longestWaits, zS_proof_graph_unfollowed, zS_proof_graph_depths, zS_proof_graph_queue, ?_, rfl, rfl, fun h => absurd h hh⟩
      rw [e1]
      unfold m_X4_search_J72
      rw [if_neg (show ¬ (nI (bAll X lim (lim + 1) 0 (bD0 X)).2.2.2.1, nI (bAll X lim (lim + 1) 0 (bD0 X)).1, z3', z4', z5', z6').2.1 = 1 from fun h => hh ((nI_eq (b := 1) (by omega) (by omega)).mp h))]
  obtain ⟨r, zP', lw', gu', gd', gq', k1, k2, k3, k4⟩ := hr
  rw [k1, pn_bd]
  have e8 : (1 + nI (X 8 0)) + nI (X 8 1) = nI (xE X) := by rw [pl_1, nI_add, nI_add]; rfl
  show ∃ r zP' lw' pm' pa' gn' gu' gd' gq' ks' pp' pe' sl' ph' zQ' now' kept' st' cf' cb' ld' re', _ ∧ gk_bd (m_X7_first F (0, nI (X 8 0), nI (X 8 1), q4, q5, q6, -1, nI 0, (1 + nI (X 8 0)) + nI (X 8 1), q10, q11) zQ_groups zQ_now) (fun v16 => gk_bd (m_X7_add F 0 0 (0, nI (X 8 0), nI (X 8 1), q4, q5, q6, -1, nI 0, (1 + nI (X 8 0)) + nI (X 8 1), q10, q11) v16 zQ_states zQ_cameFrom zQ_cameBy) _) = _ ∧ _
  rw [e8, g3, pn_bd, g5, pn_bd]
  refine ⟨r, zP', lw', zm', za', nx', gu', gd', gq', ks', pa', ev', sl', path', (0, nI (X 8 0), nI (X 8 1), q4, q5, q6, nI (bAll X lim (lim + 1) 0 (bD0 X)).1, nI (bAll X lim (lim + 1) 0 (bD0 X)).2.2.2.1, nI (xE X), q10', q11), now2, kept2, st2, cf2, cb2, ld2, re2, rfl, (by rw [k2]; exact f1), X, tx, un, tc, ts, te, s, (bAll X lim (lim + 1) 0 (bD0 X)).1, (bAll X lim (lim + 1) 0 (bD0 X)).2.1, (bAll X lim (lim + 1) 0 (bD0 X)).2.2.1, (bAll X lim (lim + 1) 0 (bD0 X)).2.2.2, hX, hc, hq, hT, hD, hM, Or.inr ⟨f5, hp, ?_, ?_, rfl, rfl, rfl, ⟨lim, hlim, f2⟩, e2, f3, fun hh => ⟨e3 hh, f4 hh, k4 hh⟩, fun hh => ?_⟩⟩
  · rw [k3]
  · rw [k3]
  · obtain ⟨a1, a2, a3, a4, a5, a6, a7⟩ := e4 hh
    obtain ⟨b1, b2, b3, b4⟩ := f6 hh
    rw [k3]
    exact ⟨b1, a1, a2, a3, a4, a5, a6, a7, b2, b3, b4⟩
