/-! what is set -/
def xCl (X : Nat → Nat → Nat) (g h v : Nat) : Nat → Nat → Nat := fun a j => if a = 0 then (if j = 6 * g + h ∨ j = 6 * h + g then 1 else X 0 j) else if a = 1 then (if j = 6 * g + h then v else X 1 j) else X a j
def xLe (X : Nat → Nat → Nat) (r g v : Nat) : Nat → Nat → Nat := fun a j => if a = r then (if j = g then v else X r j) else X a j
theorem xCl_0 (X : Nat → Nat → Nat) (g h v j : Nat) : xCl X g h v 0 j = if j = 6 * g + h ∨ j = 6 * h + g then 1 else X 0 j := rfl
theorem xCl_1 (X : Nat → Nat → Nat) (g h v j : Nat) : xCl X g h v 1 j = if j = 6 * g + h then v else X 1 j := rfl
theorem xG_cl {X : Nat → Nat → Nat} (hX : xG X) {g h v : Nat} (hg : g < 6) (hh : h < 6) (hv : v ≤ 15) : xG (xCl X g h v) := by
  obtain ⟨a1, a2, a3, a4, a5, a6, a7⟩ := hX
  refine ⟨a1, a2, a3, fun i hi => ?_, fun a b ha hb => ?_, a6, a7⟩
  · obtain ⟨b1, b2, b3⟩ := a4 i hi
    rw [xCl_0, xCl_1]
    by_cases c1 : i = 6 * g + h
    · rw [if_pos (Or.inl c1), if_pos c1]; exact ⟨Nat.le_refl _, hv, fun _ => rfl⟩
    · rw [if_neg c1]
      by_cases c2 : i = 6 * h + g
      · rw [if_pos (Or.inr c2)]; exact ⟨Nat.le_refl _, b2, fun _ => rfl⟩
      · rw [if_neg (fun h => h.elim c1 c2)]; exact ⟨b1, b2, b3⟩
  · rw [xCl_0, xCl_0]
    by_cases c1 : 6 * a + b = 6 * g + h ∨ 6 * a + b = 6 * h + g
    · rw [if_pos c1, if_pos (by omega)]
    · rw [if_neg c1, if_neg (by omega)]; exact a5 a b ha hb
theorem cX_cl {X : Nat → Nat → Nat} {zX : Int32 × Int32} {cl be le mo ph me sh lo : Nat → Int32} (hc : cX X zX cl be le mo ph me sh lo) {g h v : Nat} (hg : g < 6) (hh : h < 6) (hgh : g ≠ h) : cX (xCl X g h v) zX (upd (upd cl g (cl g ||| nI (2 ^ h))) h (upd cl g (cl g ||| nI (2 ^ h)) h ||| nI (2 ^ g))) (upd be (6 * g + h) (nI v)) le mo ph me sh lo := by
  obtain ⟨a1, a2, a3, a4, a5, a6, a7⟩ := hc
  have hor : ∀ {m k : Nat}, m < 64 → k < 6 → m ||| 2 ^ k < 64 := fun {m k} hm hk => Nat.or_lt_two_pow (n := 6) hm (Nat.pow_lt_pow_right (a := 2) (by decide) hk)
  refine ⟨a1, fun a ha => ?_, fun i hi => ?_, a4, a5, a6, a7⟩
  · obtain ⟨m, b1, b2, b3⟩ := a2 a ha
    by_cases c1 : a = h
    · subst c1
      refine ⟨m ||| 2 ^ g, ?_, hor b2 hg, fun b hb => ?_⟩
      · rw [upd_same, upd_ne (Ne.symm hgh), b1, pn_or]
      · rw [xCl_0, Nat.testBit_or, b3 b hb, Nat.testBit_two_pow]
        by_cases c2 : g = b
        · subst c2
          rw [if_pos (Or.inr rfl), decide_eq_true rfl, Bool.or_true]; rfl
        · rw [if_neg (by omega), decide_eq_false c2, Bool.or_false]
    · by_cases c2 : a = g
      · subst c2
        refine ⟨m ||| 2 ^ h, ?_, hor b2 hh, fun b hb => ?_⟩
        · rw [upd_ne c1, upd_same, b1, pn_or]
        · rw [xCl_0, Nat.testBit_or, b3 b hb, Nat.testBit_two_pow]
          by_cases c2 : h = b
          · subst c2
            rw [if_pos (Or.inl rfl), decide_eq_true rfl, Bool.or_true]; rfl
          · rw [if_neg (by omega), decide_eq_false c2, Bool.or_false]
      · refine ⟨m, ?_, b2, fun b hb => ?_⟩
        · rw [upd_ne c1, upd_ne c2, b1]
        · rw [xCl_0, if_neg (by omega)]; exact b3 b hb
  · rw [xCl_1]
    by_cases c1 : i = 6 * g + h
    · rw [if_pos c1, c1, upd_same]
    · rw [if_neg c1, upd_ne c1]; exact a3 i hi
theorem qX_cl {X : Nat → Nat → Nat} {zQ : QT} {cl be le mo ph me sh lo : Nat → Int32} (hc : qX X zQ cl be le mo ph me sh lo) {g h v : Nat} (zR : QT) (hz1 : zR.2.1 = nI (X 8 0)) (hz2 : zR.2.2.1 = nI (X 8 1)) : qX (xCl X g h v) zR (upd (upd cl (6 * g + h) 1) (6 * h + g) 1) (upd be (6 * g + h) (nI v)) le mo ph me sh lo := by
  obtain ⟨a1, a0, a2, a3, a4, a5, a6, a7⟩ := hc
  refine ⟨hz1, hz2, fun i hi => ?_, fun i hi => ?_, a4, a5, a6, a7⟩
  · rw [xCl_0]
    by_cases c2 : i = 6 * h + g
    · rw [if_pos (Or.inr c2), c2, upd_same]; rfl
    · rw [upd_ne c2]
      by_cases c1 : i = 6 * g + h
      · rw [if_pos (Or.inl c1), c1, upd_same]; rfl
      · rw [if_neg (fun h => h.elim c1 c2), upd_ne c1]; exact a2 i hi
  · rw [xCl_1]
    by_cases c1 : i = 6 * g + h
    · rw [if_pos c1, c1, upd_same]
    · rw [if_neg c1, upd_ne c1]; exact a3 i hi
theorem op_clash {F : Nat} (hF : 2000 ≤ F) {zS : Int32} {zX : Int32 × Int32} {zX_clashing : Nat → Int32} {zX_between : Nat → Int32} {zX_leastTimes : Nat → Int32} {zX_mostTimes : Nat → Int32} {zX_phases : Nat → Int32} {zX_members : Nat → Int32} {zX_shortest : Nat → Int32} {zX_longestTimes : Nat → Int32} {zS_text : Int32 × Int32} {zS_text_signs : Nat → Int32} {zS_text_members : Nat → Int32} {zS_text_shortest : Nat → Int32} {zS_text_longestTimes : Nat → Int32} {zS_diary : Int32} {zS_diary_seconds : Nat → Int32} {zS_diary_events : Nat → Int32} {zS_machine : Int32 × Int32 × Int32 × Int32 × Int32 × Int32 × Int32 × Int32} {zS_machine_ages : Nat → Int32} {zS_trial : Int32 × Int32 × Int32 × Int32 × Int32 × Int32 × Int32 × Int32} {zS_trial_ages : Nat → Int32} {zS_proof : Int32 × Int32 × Int32 × Int32 × Int32 × Int64} {zS_proof_longestWaits : Nat → Int32} {zS_proof_machine : Int32 × Int32 × Int32 × Int32 × Int32 × Int32 × Int32 × Int32} {zS_proof_machine_ages : Nat → Int32} {zS_proof_graph_nexts : Nat → Int32} {zS_proof_graph_unfollowed : Nat → Int32} {zS_proof_graph_depths : Nat → Int32} {zS_proof_graph_queue : Nat → Int32} {zS_proof_keys : Nat → Int64} {zS_proof_parents : Nat → Int32} {zS_proof_events : Nat → Int32} {zS_proof_slots : Nat → Int32} {zS_proof_path : Nat → Int32} {zQ : Int32 × Int32 × Int32 × Int32 × Int32 × Int32 × Int32 × Int32 × Int32 × Int32 × Int32} {zQ_clashes : Nat → Int32} {zQ_between : Nat → Int32} {zQ_least : Nat → Int32} {zQ_most : Nat → Int32} {zQ_phases : Nat → Int32} {zQ_groups : Nat → Int32} {zQ_shortest : Nat → Int32} {zQ_longestOf : Nat → Int32} {zQ_text : Nat → Int32} {zQ_tellSecond : Nat → Int32} {zQ_tellEvent : Nat → Int32} {zQ_machine : Nat → Int32} {zQ_now : Nat → Int32} {zQ_kept : Nat → Int32} {zQ_states : Nat → Int32} {zQ_cameFrom : Nat → Int32} {zQ_cameBy : Nat → Int32} {zQ_leads : Nat → Int32} {zQ_rowEvents : Nat → Int32} {zQ_waits : Nat → Int32} (h : INV zS zX zX_clashing zX_between zX_leastTimes zX_mostTimes zX_phases zX_members zX_shortest zX_longestTimes zS_text zS_text_signs zS_text_members zS_text_shortest zS_text_longestTimes zS_diary zS_diary_seconds zS_diary_events zS_machine zS_machine_ages zS_trial zS_trial_ages zS_proof zS_proof_longestWaits zS_proof_machine zS_proof_machine_ages zS_proof_graph_nexts zS_proof_graph_unfollowed zS_proof_graph_depths zS_proof_graph_queue zS_proof_keys zS_proof_parents zS_proof_events zS_proof_slots zS_proof_path zQ zQ_clashes zQ_between zQ_least zQ_most zQ_phases zQ_groups zQ_shortest zQ_longestOf zQ_text zQ_tellSecond zQ_tellEvent zQ_machine zQ_now zQ_kept zQ_states zQ_cameFrom zQ_cameBy zQ_leads zQ_rowEvents zQ_waits) (a b c : Int32) (zO : Nat → Int64) : ∃ r zS' c1 c2 zD' zM' ag' zP' sl' zO' w zQ' p1 p2 mac' now', m_L_clash F a b c zS zX zX_clashing zX_between zX_members zS_diary zS_machine zS_machine_ages zS_proof zS_proof_slots zO = some (r, (zS', c1, c2, zD', zM', ag', zP', sl', zO')) ∧ m_X7_clash F a b c zQ zQ_clashes zQ_between zQ_groups zQ_machine zQ_now = some (w, (zQ', p1, p2, mac', now')) ∧ zQ'.1 = r ∧ (r = 0 → (w = 0 ∧ zO' (0 : Int32).toNatClampNeg = 0) ∨ (¬ w = 0 ∧ zO' (0 : Int32).toNatClampNeg = 1)) ∧ INV zS' zX c1 c2 zX_leastTimes zX_mostTimes zX_phases zX_members zX_shortest zX_longestTimes zS_text zS_text_signs zS_text_members zS_text_shortest zS_text_longestTimes zD' zS_diary_seconds zS_diary_events zM' ag' zS_trial zS_trial_ages zP' zS_proof_longestWaits zS_proof_machine zS_proof_machine_ages zS_proof_graph_nexts zS_proof_graph_unfollowed zS_proof_graph_depths zS_proof_graph_queue zS_proof_keys zS_proof_parents zS_proof_events sl' zS_proof_path zQ' p1 p2 zQ_least zQ_most zQ_phases zQ_groups zQ_shortest zQ_longestOf zQ_text zQ_tellSecond zQ_tellEvent mac' now' zQ_kept zQ_states zQ_cameFrom zQ_cameBy zQ_leads zQ_rowEvents zQ_waits := by
  obtain ⟨X, tx, un, tc, ts, te, s, pv, fs, fe, D, hX, hc, hq, hT, hD, hM, hP⟩ := h
  obtain ⟨q1, q2, q3, q4, q5, q6, q7, q8, q9, q10, q11⟩ := zQ
  have hN := hX.2.1
  obtain rfl := hc.1
  obtain rfl : q2 = nI (X 8 0) := hq.1
  obtain rfl : q3 = nI (X 8 1) := hq.2.1
  have hI : ∀ q : Int32, INV zS ((nI (X 8 0), nI (X 8 1))) zX_clashing zX_between zX_leastTimes zX_mostTimes zX_phases zX_members zX_shortest zX_longestTimes zS_text zS_text_signs zS_text_members zS_text_shortest zS_text_longestTimes zS_diary zS_diary_seconds zS_diary_events zS_machine zS_machine_ages zS_trial zS_trial_ages zS_proof zS_proof_longestWaits zS_proof_machine zS_proof_machine_ages zS_proof_graph_nexts zS_proof_graph_unfollowed zS_proof_graph_depths zS_proof_graph_queue zS_proof_keys zS_proof_parents zS_proof_events zS_proof_slots zS_proof_path ((q, nI (X 8 0), nI (X 8 1), q4, q5, q6, q7, q8, q9, q10, q11)) zQ_clashes zQ_between zQ_least zQ_most zQ_phases zQ_groups zQ_shortest zQ_longestOf zQ_text zQ_tellSecond zQ_tellEvent zQ_machine zQ_now zQ_kept zQ_states zQ_cameFrom zQ_cameBy zQ_leads zQ_rowEvents zQ_waits := fun q => ⟨X, tx, un, tc, ts, te, s, pv, fs, fe, D, hX, hc, hq, hT, hD, hM, hP⟩
  unfold m_L_clash m_X6_clash m_X7_clash
  rcases grp_c (F := F) (N := X 8 0) (by omega) a (nI (X 8 1)) (q1, nI (X 8 0), nI (X 8 1), q4, q5, q6, q7, q8, q9, q10, q11) rfl with ⟨g, hg, rfl, e1, e2⟩ | ⟨-, e1, e2⟩
  rotate_left
  · rw [e1, pn_bd, if_pos rfl, pn_bd, e2, pn_bd, if_pos rfl]
    unfold m_X7_clash_J21 m_X7_clash_J22
    rw [if_pos (show (0 : Int32) < 1 by decide)]
    exact ⟨_, _, _, _, _, _, _, _, _, _, _, _, _, _, _, _, rfl, rfl, rfl, fun h => absurd h (by decide), hI 1⟩
  rcases grp_c (F := F) (N := X 8 0) (by omega) b (nI (X 8 1)) (q1, nI (X 8 0), nI (X 8 1), q4, q5, q6, q7, q8, q9, q10, q11) rfl with ⟨k, hk, rfl, e3, e4⟩ | ⟨-, e3, e4⟩
  rotate_left
  · rw [e1, pn_bd, if_neg (show ¬ (1 : Int32) = 0 by decide), e3, pn_bd, if_pos rfl, pn_bd, e2, pn_bd, if_neg (show ¬ (1 : Int32) = 0 by decide), e4, pn_bd, if_pos rfl]
    unfold m_X7_clash_J21 m_X7_clash_J22
    rw [if_pos (show (0 : Int32) < 1 by decide)]
    exact ⟨_, _, _, _, _, _, _, _, _, _, _, _, _, _, _, _, rfl, rfl, rfl, fun h => absurd h (by decide), hI 1⟩
  rw [e1, pn_bd, if_neg (show ¬ (1 : Int32) = 0 by decide), e3, pn_bd, if_neg (show ¬ (1 : Int32) = 0 by decide), e2, pn_bd, if_neg (show ¬ (1 : Int32) = 0 by decide), e4, pn_bd, if_neg (show ¬ (1 : Int32) = 0 by decide)]
  unfold m_X7_clash_J22
  rw [if_neg (show ¬ (0 : Int32) < 0 by decide)]
  by_cases d1 : nI g = nI k
  · rw [if_pos d1, if_pos d1, pn_bd]
    exact ⟨_, _, _, _, _, _, _, _, _, _, _, _, _, _, _, _, rfl, rfl, rfl, fun _ => Or.inl ⟨rfl, updL_same _ _ _⟩, hI 0⟩
  by_cases d2 : c < 0
  · rw [if_neg d1, if_neg d1, if_pos d2, if_pos d2, pn_bd]
    exact ⟨_, _, _, _, _, _, _, _, _, _, _, _, _, _, _, _, rfl, rfl, rfl, fun _ => Or.inl ⟨rfl, updL_same _ _ _⟩, hI 0⟩
  by_cases d3 : c ≤ 15
  rotate_left
  · rw [if_neg d1, if_neg d1, if_neg d2, if_neg d2, if_neg d3, if_neg d3, pn_bd]
    exact ⟨_, _, _, _, _, _, _, _, _, _, _, _, _, _, _, _, rfl, rfl, rfl, fun _ => Or.inl ⟨rfl, updL_same _ _ _⟩, hI 0⟩
  rw [if_neg d1, if_neg d1, if_neg d2, if_neg d2, if_pos d3, if_pos d3]
  obtain ⟨v, hv, rfl⟩ := nI_of2 (x := c) (M := 15) (n := 15) (by decide) d2 d3
  have hgk : g ≠ k := fun h => d1 (by rw [h])
  have hb : m_X0_bar F (nI g) (nI k) (nI v) (nI (X 8 0), nI (X 8 1)) zX_clashing zX_between = some (upd (upd zX_clashing g (zX_clashing g ||| nI (2 ^ k))) k (upd zX_clashing g (zX_clashing g ||| nI (2 ^ k)) k ||| nI (2 ^ g)), upd zX_between (6 * g + k) (nI v)) := by
    unfold m_X0_bar
    rw [e1, pn_bd, if_neg (show ¬ (1 : Int32) = 0 by decide), e3, pn_bd, if_neg (show ¬ (1 : Int32) = 0 by decide), show nI g * 6 + nI k = nI (6 * g + k) by rw [pl_6, pk_mul, nI_add, Nat.mul_comm], pn_ck (k := g) (by omega) (by omega), pn_ck (k := g) (by omega) (by omega), pn_ck (k := k) (by omega) (by omega), pn_ck (k := k) (by omega) (by omega), pn_ck (k := 6 * g + k) (by omega) (by omega), nI_clamp (n := g) (by omega), nI_clamp (n := k) (by omega), nI_clamp (n := 6 * g + k) (by omega), pn_sl0 k (by omega), pn_sl0 g (by omega)]
  have hX' := xG_cl hX (show g < 6 by omega) (show k < 6 by omega) hv
  have hc' := cX_cl (v := v) hc (show g < 6 by omega) (show k < 6 by omega) hgk
  have hq' := qX_cl (g := g) (h := k) (v := v) hq
  obtain ⟨fd, hfd, h1, h2⟩ := iP_fd hP
  obtain ⟨z1, z2, z3, z4, z5, z6⟩ := zS_proof
  obtain rfl : z1 = nI fd := h1
  obtain ⟨zM', ag', sl', k4, k5, k6⟩ := pc_frun hF hX' hc' zS zS_diary zS_machine zS_machine_ages (z2 := z2) (z3 := z3) (z4 := z4) (z5 := z5) (z6 := z6) hfd h2
  obtain ⟨mac', now', k7, k8⟩ := pq_anew hF hX' 0 q4 q5 q6 q7 q8 q9 q10 q11 (fun zR hz1 hz2 => hq' zR hz1 hz2) zQ_machine zQ_now
  have k7 : m_X7_anew F (0, nI (X 8 0), nI (X 8 1), q4, q5, q6, q7, q8, q9, q10, q11) zQ_groups zQ_machine zQ_now = some ((0, nI (X 8 0), nI (X 8 1), q4, 0, 0, -1, 0, q9, q10, q11), mac', now') := k7
  rw [hb, pn_bd, k4, pn_bd, pn_bd, show (6 : Int32) * nI g + nI k = nI (6 * g + k) by rw [pl_6, pk_mul, nI_add], show (6 : Int32) * nI k + nI g = nI (6 * k + g) by rw [pl_6, pk_mul, nI_add], pn_ck (k := 6 * g + k) (by omega) (by omega), pn_ck (k := 6 * k + g) (by omega) (by omega), pn_ck (k := 6 * g + k) (by omega) (by omega)]
  show ∃ r zS' c1 c2 zD' zM' ag' zP' sl' zO' w zQ' p1 p2 mac' now', _ ∧ gk_bd (m_X7_anew F (0, nI (X 8 0), nI (X 8 1), q4, q5, q6, q7, q8, q9, q10, q11) zQ_groups zQ_machine zQ_now) _ = _ ∧ _
  rw [k7, pn_bd, nI_clamp (n := 6 * g + k) (by omega), nI_clamp (n := 6 * k + g) (by omega)]
  exact ⟨_, _, _, _, _, _, _, _, _, _, _, _, _, _, _, _, rfl, rfl, rfl, fun _ => Or.inr ⟨show ¬ (1 : Int32) = 0 by decide, updL_same _ _ _⟩, xCl X g k v, tx, un, 0, ts, te, sIni (xCl X g k v), 3, fs, fe, D, hX', hc', hq' _ rfl rfl, hT, ⟨rfl, Nat.zero_le _, rfl, fun i hi => by omega, fun i j hi => by omega⟩, ⟨rfl, fun hp => ⟨sV_ini hX' hp, k5 hp, k8 hp⟩⟩, Or.inl ⟨rfl, rfl, rfl, k6, rfl, rfl⟩⟩
theorem xG_2 {X : Nat → Nat → Nat} (hX : xG X) {g v : Nat} (hv : v ≤ 15) : xG (xLe X 2 g v) := by
  obtain ⟨a1, a2, a3, a4, a5, a6, a7⟩ := hX
  refine ⟨a1, a2, a3, a4, a5, fun i hi => ?_, a7⟩
  show (if i = g then v else X 2 i) ≤ 15 ∧ X 3 i ≤ 31
  by_cases c : i = g
  · rw [if_pos c]; exact ⟨hv, (a6 i hi).2⟩
  · rw [if_neg c]; exact a6 i hi
theorem xG_3 {X : Nat → Nat → Nat} (hX : xG X) {g v : Nat} (hv : v ≤ 31) : xG (xLe X 3 g v) := by
  obtain ⟨a1, a2, a3, a4, a5, a6, a7⟩ := hX
  refine ⟨a1, a2, a3, a4, a5, fun i hi => ?_, a7⟩
  show X 2 i ≤ 15 ∧ (if i = g then v else X 3 i) ≤ 31
  by_cases c : i = g
  · rw [if_pos c]; exact ⟨(a6 i hi).1, hv⟩
  · rw [if_neg c]; exact a6 i hi
theorem up_r {X : Nat → Nat → Nat} {le : Nat → Int32} {r : Nat} (h : ∀ g, g < 6 → le g = nI (X r g)) (g v : Nat) : ∀ i, i < 6 → upd le g (nI v) i = nI (if i = g then v else X r i) := fun i hi => by
  by_cases c : i = g
  · rw [c, upd_same, if_pos rfl]
  · rw [upd_ne c, if_neg c]; exact h i hi
theorem op_least {F : Nat} (hF : 2000 ≤ F) {zS : Int32} {zX : Int32 × Int32} {zX_clashing : Nat → Int32} {zX_between : Nat → Int32} {zX_leastTimes : Nat → Int32} {zX_mostTimes : Nat → Int32} {zX_phases : Nat → Int32} {zX_members : Nat → Int32} {zX_shortest : Nat → Int32} {zX_longestTimes : Nat → Int32} {zS_text : Int32 × Int32} {zS_text_signs : Nat → Int32} {zS_text_members : Nat → Int32} {zS_text_shortest : Nat → Int32} {zS_text_longestTimes : Nat → Int32} {zS_diary : Int32} {zS_diary_seconds : Nat → Int32} {zS_diary_events : Nat → Int32} {zS_machine : Int32 × Int32 × Int32 × Int32 × Int32 × Int32 × Int32 × Int32} {zS_machine_ages : Nat → Int32} {zS_trial : Int32 × Int32 × Int32 × Int32 × Int32 × Int32 × Int32 × Int32} {zS_trial_ages : Nat → Int32} {zS_proof : Int32 × Int32 × Int32 × Int32 × Int32 × Int64} {zS_proof_longestWaits : Nat → Int32} {zS_proof_machine : Int32 × Int32 × Int32 × Int32 × Int32 × Int32 × Int32 × Int32} {zS_proof_machine_ages : Nat → Int32} {zS_proof_graph_nexts : Nat → Int32} {zS_proof_graph_unfollowed : Nat → Int32} {zS_proof_graph_depths : Nat → Int32} {zS_proof_graph_queue : Nat → Int32} {zS_proof_keys : Nat → Int64} {zS_proof_parents : Nat → Int32} {zS_proof_events : Nat → Int32} {zS_proof_slots : Nat → Int32} {zS_proof_path : Nat → Int32} {zQ : Int32 × Int32 × Int32 × Int32 × Int32 × Int32 × Int32 × Int32 × Int32 × Int32 × Int32} {zQ_clashes : Nat → Int32} {zQ_between : Nat → Int32} {zQ_least : Nat → Int32} {zQ_most : Nat → Int32} {zQ_phases : Nat → Int32} {zQ_groups : Nat → Int32} {zQ_shortest : Nat → Int32} {zQ_longestOf : Nat → Int32} {zQ_text : Nat → Int32} {zQ_tellSecond : Nat → Int32} {zQ_tellEvent : Nat → Int32} {zQ_machine : Nat → Int32} {zQ_now : Nat → Int32} {zQ_kept : Nat → Int32} {zQ_states : Nat → Int32} {zQ_cameFrom : Nat → Int32} {zQ_cameBy : Nat → Int32} {zQ_leads : Nat → Int32} {zQ_rowEvents : Nat → Int32} {zQ_waits : Nat → Int32} (h : INV zS zX zX_clashing zX_between zX_leastTimes zX_mostTimes zX_phases zX_members zX_shortest zX_longestTimes zS_text zS_text_signs zS_text_members zS_text_shortest zS_text_longestTimes zS_diary zS_diary_seconds zS_diary_events zS_machine zS_machine_ages zS_trial zS_trial_ages zS_proof zS_proof_longestWaits zS_proof_machine zS_proof_machine_ages zS_proof_graph_nexts zS_proof_graph_unfollowed zS_proof_graph_depths zS_proof_graph_queue zS_proof_keys zS_proof_parents zS_proof_events zS_proof_slots zS_proof_path zQ zQ_clashes zQ_between zQ_least zQ_most zQ_phases zQ_groups zQ_shortest zQ_longestOf zQ_text zQ_tellSecond zQ_tellEvent zQ_machine zQ_now zQ_kept zQ_states zQ_cameFrom zQ_cameBy zQ_leads zQ_rowEvents zQ_waits) (a b : Int32) (zO : Nat → Int64) : ∃ r zS' c1 zD' zM' ag' zP' sl' zO' w zQ' p1 mac' now', m_L_least F a b zS zX zX_leastTimes zX_members zS_diary zS_machine zS_machine_ages zS_proof zS_proof_slots zO = some (r, (zS', c1, zD', zM', ag', zP', sl', zO')) ∧ m_X7_least F a b zQ zQ_least zQ_groups zQ_machine zQ_now = some (w, (zQ', p1, mac', now')) ∧ zQ'.1 = r ∧ (r = 0 → (w = 0 ∧ zO' (0 : Int32).toNatClampNeg = 0) ∨ (¬ w = 0 ∧ zO' (0 : Int32).toNatClampNeg = 1)) ∧ INV zS' zX zX_clashing zX_between c1 zX_mostTimes zX_phases zX_members zX_shortest zX_longestTimes zS_text zS_text_signs zS_text_members zS_text_shortest zS_text_longestTimes zD' zS_diary_seconds zS_diary_events zM' ag' zS_trial zS_trial_ages zP' zS_proof_longestWaits zS_proof_machine zS_proof_machine_ages zS_proof_graph_nexts zS_proof_graph_unfollowed zS_proof_graph_depths zS_proof_graph_queue zS_proof_keys zS_proof_parents zS_proof_events sl' zS_proof_path zQ' zQ_clashes zQ_between p1 zQ_most zQ_phases zQ_groups zQ_shortest zQ_longestOf zQ_text zQ_tellSecond zQ_tellEvent mac' now' zQ_kept zQ_states zQ_cameFrom zQ_cameBy zQ_leads zQ_rowEvents zQ_waits := by
  obtain ⟨X, tx, un, tc, ts, te, s, pv, fs, fe, D, hX, hc, hq, hT, hD, hM, hP⟩ := h
  obtain ⟨q1, q2, q3, q4, q5, q6, q7, q8, q9, q10, q11⟩ := zQ
  have hN := hX.2.1
  obtain rfl := hc.1
  obtain rfl : q2 = nI (X 8 0) := hq.1
  obtain rfl : q3 = nI (X 8 1) := hq.2.1
  have hI : ∀ q : Int32, INV zS ((nI (X 8 0), nI (X 8 1))) zX_clashing zX_between zX_leastTimes zX_mostTimes zX_phases zX_members zX_shortest zX_longestTimes zS_text zS_text_signs zS_text_members zS_text_shortest zS_text_longestTimes zS_diary zS_diary_seconds zS_diary_events zS_machine zS_machine_ages zS_trial zS_trial_ages zS_proof zS_proof_longestWaits zS_proof_machine zS_proof_machine_ages zS_proof_graph_nexts zS_proof_graph_unfollowed zS_proof_graph_depths zS_proof_graph_queue zS_proof_keys zS_proof_parents zS_proof_events zS_proof_slots zS_proof_path ((q, nI (X 8 0), nI (X 8 1), q4, q5, q6, q7, q8, q9, q10, q11)) zQ_clashes zQ_between zQ_least zQ_most zQ_phases zQ_groups zQ_shortest zQ_longestOf zQ_text zQ_tellSecond zQ_tellEvent zQ_machine zQ_now zQ_kept zQ_states zQ_cameFrom zQ_cameBy zQ_leads zQ_rowEvents zQ_waits := fun q => ⟨X, tx, un, tc, ts, te, s, pv, fs, fe, D, hX, hc, hq, hT, hD, hM, hP⟩
  unfold m_L_least m_X6_least m_X7_least m_X7_least_J14
  rcases grp_c (F := F) (N := X 8 0) (by omega) a (nI (X 8 1)) (q1, nI (X 8 0), nI (X 8 1), q4, q5, q6, q7, q8, q9, q10, q11) rfl with ⟨g, hg, rfl, e1, e2⟩ | ⟨-, e1, e2⟩
  rotate_left
  · rw [e1, pn_bd, if_pos rfl, pn_bd, e2, pn_bd, if_pos rfl, if_pos (show (0 : Int32) < 1 by decide)]
    exact ⟨_, _, _, _, _, _, _, _, _, _, _, _, _, _, rfl, rfl, rfl, fun h => absurd h (by decide), hI 1⟩
  rw [e1, pn_bd, if_neg (show ¬ (1 : Int32) = 0 by decide), e2, pn_bd, if_neg (show ¬ (1 : Int32) = 0 by decide), if_neg (show ¬ (0 : Int32) < 0 by decide)]
  by_cases d2 : b < 1
  · rw [if_pos d2, if_pos d2, pn_bd]
    exact ⟨_, _, _, _, _, _, _, _, _, _, _, _, _, _, rfl, rfl, rfl, fun _ => Or.inl ⟨rfl, updL_same _ _ _⟩, hI 0⟩
  by_cases d3 : b ≤ 15
  rotate_left
  · rw [if_neg d2, if_neg d2, if_neg d3, if_neg d3, pn_bd]
    exact ⟨_, _, _, _, _, _, _, _, _, _, _, _, _, _, rfl, rfl, rfl, fun _ => Or.inl ⟨rfl, updL_same _ _ _⟩, hI 0⟩
  rw [if_neg d2, if_neg d2, if_pos d3, if_pos d3]
  obtain ⟨v, hv, rfl⟩ := nI_of2 (x := b) (M := 15) (n := 15) (by decide) (fun h => d2 (Int32.lt_trans h (by decide))) d3
  have hX' := xG_2 (g := g) hX hv
  have hc' : cX (xLe X 2 g v) (nI (X 8 0), nI (X 8 1)) zX_clashing zX_between (upd zX_leastTimes g (nI v)) zX_mostTimes zX_phases zX_members zX_shortest zX_longestTimes := ⟨rfl, hc.2.1, hc.2.2.1, up_r (r := 2) hc.2.2.2.1 g v, hc.2.2.2.2.1, hc.2.2.2.2.2⟩
  have hq' : ∀ zR : QT, zR.2.1 = nI (X 8 0) → zR.2.2.1 = nI (X 8 1) → qX (xLe X 2 g v) zR zQ_clashes zQ_between (upd zQ_least g (nI v)) zQ_most zQ_phases zQ_groups zQ_shortest zQ_longestOf := fun zR h1 h2 => ⟨h1, h2, hq.2.2.1, hq.2.2.2.1, up_r (r := 2) hq.2.2.2.2.1 g v, hq.2.2.2.2.2.1, hq.2.2.2.2.2.2⟩
  obtain ⟨fd, hfd, h1, h2⟩ := iP_fd hP
  obtain ⟨z1, z2, z3, z4, z5, z6⟩ := zS_proof
  obtain rfl : z1 = nI fd := h1
  obtain ⟨zM', ag', sl', k4, k5, k6⟩ := pc_frun hF hX' hc' zS zS_diary zS_machine zS_machine_ages (z2 := z2) (z3 := z3) (z4 := z4) (z5 := z5) (z6 := z6) hfd h2
  obtain ⟨mac', now', k7, k8⟩ := pq_anew hF hX' 0 q4 q5 q6 q7 q8 q9 q10 q11 (fun zR hz1 hz2 => hq' zR hz1 hz2) zQ_machine zQ_now
  have k7 : m_X7_anew F (0, nI (X 8 0), nI (X 8 1), q4, q5, q6, q7, q8, q9, q10, q11) zQ_groups zQ_machine zQ_now = some ((0, nI (X 8 0), nI (X 8 1), q4, 0, 0, -1, 0, q9, q10, q11), mac', now') := k7
  rw [pn_ck (k := g) (by omega) (by omega), pn_ck (k := g) (by omega) (by omega), k4, pn_bd, pn_bd]
  show ∃ r zS' c1 zD' zM' ag' zP' sl' zO' w zQ' p1 mac' now', _ ∧ gk_bd (m_X7_anew F (0, nI (X 8 0), nI (X 8 1), q4, q5, q6, q7, q8, q9, q10, q11) zQ_groups zQ_machine zQ_now) _ = _ ∧ _
  rw [k7, pn_bd, nI_clamp (n := g) (by omega)]
  exact ⟨_, _, _, _, _, _, _, _, _, _, _, _, _, _, rfl, rfl, rfl, fun _ => Or.inr ⟨show ¬ (1 : Int32) = 0 by decide, updL_same _ _ _⟩, xLe X 2 g v, tx, un, 0, ts, te, sIni (xLe X 2 g v), 3, fs, fe, D, hX', hc', hq' _ rfl rfl, hT, ⟨rfl, Nat.zero_le _, rfl, fun i hi => by omega, fun i j hi => by omega⟩, ⟨rfl, fun hp => ⟨sV_ini hX' hp, k5 hp, k8 hp⟩⟩, Or.inl ⟨rfl, rfl, rfl, k6, rfl, rfl⟩⟩
theorem op_most {F : Nat} (hF : 2000 ≤ F) {zS : Int32} {zX : Int32 × Int32} {zX_clashing : Nat → Int32} {zX_between : Nat → Int32} {zX_leastTimes : Nat → Int32} {zX_mostTimes : Nat → Int32} {zX_phases : Nat → Int32} {zX_members : Nat → Int32} {zX_shortest : Nat → Int32} {zX_longestTimes : Nat → Int32} {zS_text : Int32 × Int32} {zS_text_signs : Nat → Int32} {zS_text_members : Nat → Int32} {zS_text_shortest : Nat → Int32} {zS_text_longestTimes : Nat → Int32} {zS_diary : Int32} {zS_diary_seconds : Nat → Int32} {zS_diary_events : Nat → Int32} {zS_machine : Int32 × Int32 × Int32 × Int32 × Int32 × Int32 × Int32 × Int32} {zS_machine_ages : Nat → Int32} {zS_trial : Int32 × Int32 × Int32 × Int32 × Int32 × Int32 × Int32 × Int32} {zS_trial_ages : Nat → Int32} {zS_proof : Int32 × Int32 × Int32 × Int32 × Int32 × Int64} {zS_proof_longestWaits : Nat → Int32} {zS_proof_machine : Int32 × Int32 × Int32 × Int32 × Int32 × Int32 × Int32 × Int32} {zS_proof_machine_ages : Nat → Int32} {zS_proof_graph_nexts : Nat → Int32} {zS_proof_graph_unfollowed : Nat → Int32} {zS_proof_graph_depths : Nat → Int32} {zS_proof_graph_queue : Nat → Int32} {zS_proof_keys : Nat → Int64} {zS_proof_parents : Nat → Int32} {zS_proof_events : Nat → Int32} {zS_proof_slots : Nat → Int32} {zS_proof_path : Nat → Int32} {zQ : Int32 × Int32 × Int32 × Int32 × Int32 × Int32 × Int32 × Int32 × Int32 × Int32 × Int32} {zQ_clashes : Nat → Int32} {zQ_between : Nat → Int32} {zQ_least : Nat → Int32} {zQ_most : Nat → Int32} {zQ_phases : Nat → Int32} {zQ_groups : Nat → Int32} {zQ_shortest : Nat → Int32} {zQ_longestOf : Nat → Int32} {zQ_text : Nat → Int32} {zQ_tellSecond : Nat → Int32} {zQ_tellEvent : Nat → Int32} {zQ_machine : Nat → Int32} {zQ_now : Nat → Int32} {zQ_kept : Nat → Int32} {zQ_states : Nat → Int32} {zQ_cameFrom : Nat → Int32} {zQ_cameBy : Nat → Int32} {zQ_leads : Nat → Int32} {zQ_rowEvents : Nat → Int32} {zQ_waits : Nat → Int32} (h : INV zS zX zX_clashing zX_between zX_leastTimes zX_mostTimes zX_phases zX_members zX_shortest zX_longestTimes zS_text zS_text_signs zS_text_members zS_text_shortest zS_text_longestTimes zS_diary zS_diary_seconds zS_diary_events zS_machine zS_machine_ages zS_trial zS_trial_ages zS_proof zS_proof_longestWaits zS_proof_machine zS_proof_machine_ages zS_proof_graph_nexts zS_proof_graph_unfollowed zS_proof_graph_depths zS_proof_graph_queue zS_proof_keys zS_proof_parents zS_proof_events zS_proof_slots zS_proof_path zQ zQ_clashes zQ_between zQ_least zQ_most zQ_phases zQ_groups zQ_shortest zQ_longestOf zQ_text zQ_tellSecond zQ_tellEvent zQ_machine zQ_now zQ_kept zQ_states zQ_cameFrom zQ_cameBy zQ_leads zQ_rowEvents zQ_waits) (a b : Int32) (zO : Nat → Int64) : ∃ r zS' c1 zD' zM' ag' zP' sl' zO' w zQ' p1 mac' now', m_L_most F a b zS zX zX_mostTimes zX_members zS_diary zS_machine zS_machine_ages zS_proof zS_proof_slots zO = some (r, (zS', c1, zD', zM', ag', zP', sl', zO')) ∧ m_X7_most F a b zQ zQ_most zQ_groups zQ_machine zQ_now = some (w, (zQ', p1, mac', now')) ∧ zQ'.1 = r ∧ (r = 0 → (w = 0 ∧ zO' (0 : Int32).toNatClampNeg = 0) ∨ (¬ w = 0 ∧ zO' (0 : Int32).toNatClampNeg = 1)) ∧ INV zS' zX zX_clashing zX_between zX_leastTimes c1 zX_phases zX_members zX_shortest zX_longestTimes zS_text zS_text_signs zS_text_members zS_text_shortest zS_text_longestTimes zD' zS_diary_seconds zS_diary_events zM' ag' zS_trial zS_trial_ages zP' zS_proof_longestWaits zS_proof_machine zS_proof_machine_ages zS_proof_graph_nexts zS_proof_graph_unfollowed zS_proof_graph_depths zS_proof_graph_queue zS_proof_keys zS_proof_parents zS_proof_events sl' zS_proof_path zQ' zQ_clashes zQ_between zQ_least p1 zQ_phases zQ_groups zQ_shortest zQ_longestOf zQ_text zQ_tellSecond zQ_tellEvent mac' now' zQ_kept zQ_states zQ_cameFrom zQ_cameBy zQ_leads zQ_rowEvents zQ_waits := by
  obtain ⟨X, tx, un, tc, ts, te, s, pv, fs, fe, D, hX, hc, hq, hT, hD, hM, hP⟩ := h
  obtain ⟨q1, q2, q3, q4, q5, q6, q7, q8, q9, q10, q11⟩ := zQ
  have hN := hX.2.1
  obtain rfl := hc.1
  obtain rfl : q2 = nI (X 8 0) := hq.1
  obtain rfl : q3 = nI (X 8 1) := hq.2.1
  have hI : ∀ q : Int32, INV zS ((nI (X 8 0), nI (X 8 1))) zX_clashing zX_between zX_leastTimes zX_mostTimes zX_phases zX_members zX_shortest zX_longestTimes zS_text zS_text_signs zS_text_members zS_text_shortest zS_text_longestTimes zS_diary zS_diary_seconds zS_diary_events zS_machine zS_machine_ages zS_trial zS_trial_ages zS_proof zS_proof_longestWaits zS_proof_machine zS_proof_machine_ages zS_proof_graph_nexts zS_proof_graph_unfollowed zS_proof_graph_depths zS_proof_graph_queue zS_proof_keys zS_proof_parents zS_proof_events zS_proof_slots zS_proof_path ((q, nI (X 8 0), nI (X 8 1), q4, q5, q6, q7, q8, q9, q10, q11)) zQ_clashes zQ_between zQ_least zQ_most zQ_phases zQ_groups zQ_shortest zQ_longestOf zQ_text zQ_tellSecond zQ_tellEvent zQ_machine zQ_now zQ_kept zQ_states zQ_cameFrom zQ_cameBy zQ_leads zQ_rowEvents zQ_waits := fun q => ⟨X, tx, un, tc, ts, te, s, pv, fs, fe, D, hX, hc, hq, hT, hD, hM, hP⟩
  unfold m_L_most m_X6_most m_X7_most m_X7_most_J14
  rcases grp_c (F := F) (N := X 8 0) (by omega) a (nI (X 8 1)) (q1, nI (X 8 0), nI (X 8 1), q4, q5, q6, q7, q8, q9, q10, q11) rfl with ⟨g, hg, rfl, e1, e2⟩ | ⟨-, e1, e2⟩
  rotate_left
  · rw [e1, pn_bd, if_pos rfl, pn_bd, e2, pn_bd, if_pos rfl, if_pos (show (0 : Int32) < 1 by decide)]
    exact ⟨_, _, _, _, _, _, _, _, _, _, _, _, _, _, rfl, rfl, rfl, fun h => absurd h (by decide), hI 1⟩
  rw [e1, pn_bd, if_neg (show ¬ (1 : Int32) = 0 by decide), e2, pn_bd, if_neg (show ¬ (1 : Int32) = 0 by decide), if_neg (show ¬ (0 : Int32) < 0 by decide)]
  by_cases d2 : b < 1
  · rw [if_pos d2, if_pos d2, pn_bd]
    exact ⟨_, _, _, _, _, _, _, _, _, _, _, _, _, _, rfl, rfl, rfl, fun _ => Or.inl ⟨rfl, updL_same _ _ _⟩, hI 0⟩
  by_cases d3 : b ≤ 31
  rotate_left
  · rw [if_neg d2, if_neg d2, if_neg d3, if_neg d3, pn_bd]
    exact ⟨_, _, _, _, _, _, _, _, _, _, _, _, _, _, rfl, rfl, rfl, fun _ => Or.inl ⟨rfl, updL_same _ _ _⟩, hI 0⟩
  rw [if_neg d2, if_neg d2, if_pos d3, if_pos d3]
  obtain ⟨v, hv, rfl⟩ := nI_of2 (x := b) (M := 31) (n := 31) (by decide) (fun h => d2 (Int32.lt_trans h (by decide))) d3
  have hX' := xG_3 (g := g) hX hv
  have hc' : cX (xLe X 3 g v) (nI (X 8 0), nI (X 8 1)) zX_clashing zX_between zX_leastTimes (upd zX_mostTimes g (nI v)) zX_phases zX_members zX_shortest zX_longestTimes := ⟨rfl, hc.2.1, hc.2.2.1, hc.2.2.2.1, up_r (r := 3) hc.2.2.2.2.1 g v, hc.2.2.2.2.2⟩
  have hq' : ∀ zR : QT, zR.2.1 = nI (X 8 0) → zR.2.2.1 = nI (X 8 1) → qX (xLe X 3 g v) zR zQ_clashes zQ_between zQ_least (upd zQ_most g (nI v)) zQ_phases zQ_groups zQ_shortest zQ_longestOf := fun zR h1 h2 => ⟨h1, h2, hq.2.2.1, hq.2.2.2.1, hq.2.2.2.2.1, up_r (r := 3) hq.2.2.2.2.2.1 g v, hq.2.2.2.2.2.2⟩
  obtain ⟨fd, hfd, h1, h2⟩ := iP_fd hP
  obtain ⟨z1, z2, z3, z4, z5, z6⟩ := zS_proof
  obtain rfl : z1 = nI fd := h1
  obtain ⟨zM', ag', sl', k4, k5, k6⟩ := pc_frun hF hX' hc' zS zS_diary zS_machine zS_machine_ages (z2 := z2) (z3 := z3) (z4 := z4) (z5 := z5) (z6 := z6) hfd h2
  obtain ⟨mac', now', k7, k8⟩ := pq_anew hF hX' 0 q4 q5 q6 q7 q8 q9 q10 q11 (fun zR hz1 hz2 => hq' zR hz1 hz2) zQ_machine zQ_now
  have k7 : m_X7_anew F (0, nI (X 8 0), nI (X 8 1), q4, q5, q6, q7, q8, q9, q10, q11) zQ_groups zQ_machine zQ_now = some ((0, nI (X 8 0), nI (X 8 1), q4, 0, 0, -1, 0, q9, q10, q11), mac', now') := k7
  rw [pn_ck (k := g) (by omega) (by omega), pn_ck (k := g) (by omega) (by omega), k4, pn_bd, pn_bd]
  show ∃ r zS' c1 zD' zM' ag' zP' sl' zO' w zQ' p1 mac' now', _ ∧ gk_bd (m_X7_anew F (0, nI (X 8 0), nI (X 8 1), q4, q5, q6, q7, q8, q9, q10, q11) zQ_groups zQ_machine zQ_now) _ = _ ∧ _
  rw [k7, pn_bd, nI_clamp (n := g) (by omega)]
  exact ⟨_, _, _, _, _, _, _, _, _, _, _, _, _, _, rfl, rfl, rfl, fun _ => Or.inr ⟨show ¬ (1 : Int32) = 0 by decide, updL_same _ _ _⟩, xLe X 3 g v, tx, un, 0, ts, te, sIni (xLe X 3 g v), 3, fs, fe, D, hX', hc', hq' _ rfl rfl, hT, ⟨rfl, Nat.zero_le _, rfl, fun i hi => by omega, fun i j hi => by omega⟩, ⟨rfl, fun hp => ⟨sV_ini hX' hp, k5 hp, k8 hp⟩⟩, Or.inl ⟨rfl, rfl, rfl, k6, rfl, rfl⟩⟩
