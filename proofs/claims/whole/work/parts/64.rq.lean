/-! as at first -/
theorem pc_reset {F : Nat} (hF : 2000 ≤ F) {X : Nat → Nat → Nat} (hX : xG X) {zX : Int32 × Int32} {cl be le mo ph me sh lo : Nat → Int32} (hc : cX X zX cl be le mo ph me sh lo) (zM : Int32 × Int32 × Int32 × Int32 × Int32 × Int32 × Int32 × Int32) (ag : Nat → Int32) : ∃ zM' ag', m_X2_reset F zM zX me ag = some (zM', ag') ∧ (0 < X 8 1 → cR (sIni X) zM' ag') := by
  have hN := hX.2.1
  unfold m_X2_reset
  rw [show (0 : Int32) = nI 0 from rfl, pc_gi (by omega), pn_bd]
  obtain ⟨a0, e0, h0, -⟩ := pj_fill (F := F) (n := 6) (by omega) (by omega) (nI 0) ag
  rw [e0, pn_bd]
  generalize hz : ((nI 0, nI 0, nI 0, nI 0, nI 0, nI 0, zM.2.2.2.2.2.2.1, zM.2.2.2.2.2.2.2) : Int32 × Int32 × Int32 × Int32 × Int32 × Int32 × Int32 × Int32) = zz
  obtain ⟨n1, a1, e1, h1⟩ := lpA (L := fun n k a => m_X2_reset_L49 F zX me n (me 0) (nI k) zz a) (N := X 8 0) (Inv := fun k a => (∀ g, g < 6 → k ≤ g → a g = nI 0) ∧ (0 < X 8 1 → ∀ g, g < k → a g = nI (if (sM X 0 0).testBit g then 0 else 15))) (by
    intro n k a hk hi
    have hstep : ∀ v : Int32, (0 < X 8 1 → v = nI (if (sM X 0 0).testBit k then 0 else 15)) → ∃ a', m_X2_reset_J79 F zX me (m_X2_reset_L49 F zX me n) (me 0) (nI k) v (nI k) zz a = m_X2_reset_L49 F zX me n (me 0) (nI (k + 1)) zz a' ∧ (∀ g, g < 6 → k + 1 ≤ g → a' g = nI 0) ∧ (0 < X 8 1 → ∀ g, g < k + 1 → a' g = nI (if (sM X 0 0).testBit g then 0 else 15)) := fun v hv => by
      refine ⟨upd a k v, ?_, fun g hg h2 => ?_, fun hp g hg => ?_⟩
      · unfold m_X2_reset_J79
        rw [pn_ck (by omega) (by omega), nI_clamp (by omega), nI_1]
      · rw [upd_ne (by omega)]; exact hi.1 g hg (by omega)
      · by_cases hh : g = k
        · rw [hh, upd_same]; exact hv hp
        · rw [upd_ne hh]; exact hi.2 hp g (by omega)
    show ∃ a', m_X2_reset_L49 F zX me (n + 1) (me 0) (nI k) zz a = m_X2_reset_L49 F zX me n (me 0) (nI (k + 1)) zz a' ∧ _
    rw [u_X2_reset_L49, if_neg (show ¬ zX.1 ≤ nI k by rw [hc.1]; exact nI_ge hk (by omega))]
    have hm : 0 < X 8 1 → me 0 = nI (sM X 0 0) := fun hp => (hc.2.2.2.2.2.2 0 hp 0 (hX.2.2.2.2.2.2 0 hp).1).1
    split
    · rename_i hcnd
      refine hstep 15 (fun hp => ?_)
      rw [hm hp] at hcnd
      have e := pn_b0 (k := sM X 0 0) (j := k) (by omega)
      have e : ((nI (sM X 0 0) >>> (nI k &&& 31)) &&& 1 = 0) = ((sM X 0 0).testBit k = false) := e
      rw [e] at hcnd
      rw [hcnd]; rfl
    · rename_i hcnd
      refine hstep 0 (fun hp => ?_)
      rw [hm hp] at hcnd
      have e := pn_b0 (k := sM X 0 0) (j := k) (by omega)
      have e : ((nI (sM X 0 0) >>> (nI k &&& 31)) &&& 1 = 0) = ((sM X 0 0).testBit k = false) := e
      rw [e] at hcnd
      have : (sM X 0 0).testBit k = true := by
        cases hx : (sM X 0 0).testBit k
        · exact absurd hx hcnd
        · rfl
      rw [this]; rfl) (X 8 0) F 0 a0 (by omega) (by omega) ⟨fun g hg _ => h0 g hg, fun _ g hg => by omega⟩
  have e1 : m_X2_reset_L49 F zX me F (me 0) (nI 0) zz a0 = m_X2_reset_L49 F zX me (n1 + 1) (me 0) (nI (X 8 0)) zz a1 := e1
  refine ⟨zz, a1, ?_, fun hp => ⟨⟨_, _, hz.symm⟩, fun g hg => ?_⟩⟩
  · rw [e1, u_X2_reset_L49, if_pos (show zX.1 ≤ nI (X 8 0) by rw [hc.1]; exact nI_le (Nat.le_refl _) (by omega))]
  · unfold sIni
    by_cases hh : g < X 8 0
    · rw [h1.2 hp g hh, if_pos (show 8 ≤ 8 + g ∧ 8 + g < 8 + X 8 0 from ⟨by omega, by omega⟩), show 8 + g - 8 = g by omega]
    · rw [h1.1 g hg (by omega), if_neg (by omega)]
theorem pc_frun {F : Nat} (hF : 2000 ≤ F) {X : Nat → Nat → Nat} (hX : xG X) {zX : Int32 × Int32} {cl be le mo ph me sh lo : Nat → Int32} (hc : cX X zX cl be le mo ph me sh lo) (zS zD : Int32) (zM : Int32 × Int32 × Int32 × Int32 × Int32 × Int32 × Int32 × Int32) (ag : Nat → Int32) {z2 z3 z4 z5 : Int32} {z6 : Int64} {sl : Nat → Int32} {fd : Nat} (hfd : fd ≤ 400) (h0 : fd = 0 → ∀ j, j < 1024 → sl j = nI 0) :
    ∃ zM' ag' sl', m_X6_forgetRun F zS zX me zD zM ag (nI fd, z2, z3, z4, z5, z6) sl = some (0, 0, zM', ag', (nI 0, nI 3, z3, z4, z5, z6), sl') ∧ (0 < X 8 1 → cR (sIni X) zM' ag') ∧ ∀ j, j < 1024 → sl' j = nI 0 := by
  obtain ⟨sl', e1, h1⟩ := pc_forget hF (z2 := z2) (z3 := z3) (z4 := z4) (z5 := z5) (z6 := z6) hfd h0
  obtain ⟨zM', ag', e2, h2⟩ := pc_reset hF hX hc zM ag
  refine ⟨zM', ag', sl', ?_, h2, h1⟩
  unfold m_X6_forgetRun
  rw [e1, pn_bd, e2, pn_bd]
theorem pq_anew {F : Nat} (hF : 2000 ≤ F) {X : Nat → Nat → Nat} (hX : xG X) (q1 q4 q5 q6 q7 q8 q9 q10 q11 : Int32) {kl be le mo ph me sh lo : Nat → Int32} (hq : ∀ zQ : QT, zQ.2.1 = nI (X 8 0) → zQ.2.2.1 = nI (X 8 1) → qX X zQ kl be le mo ph me sh lo) (mac now : Nat → Int32) :
    ∃ mac' now', m_X7_anew F (q1, nI (X 8 0), nI (X 8 1), q4, q5, q6, q7, q8, q9, q10, q11) me mac now = some ((q1, nI (X 8 0), nI (X 8 1), q4, 0, 0, -1, 0, q9, q10, q11), mac', now') ∧ (0 < X 8 1 → qN (sIni X) mac') := by
  unfold m_X7_anew
  obtain ⟨nw, e1, h1⟩ := pq_first hF hX (hq (q1, nI (X 8 0), nI (X 8 1), q4, 0, 0, -1, 0, q9, q10, q11) rfl rfl) (now := now)
  show ∃ mac' now', gk_bd (m_X7_first F (q1, nI (X 8 0), nI (X 8 1), q4, 0, 0, -1, 0, q9, q10, q11) me now) _ = _ ∧ _
  rw [e1, pn_bd]
  obtain ⟨n2, a2, e2, h2⟩ := lpA (L := fun n k a => m_X7_anew_L26 F me n (nI k) (q1, nI (X 8 0), nI (X 8 1), q4, 0, 0, -1, 0, q9, q10, q11) a nw) (N := 14) (Inv := fun k a => ∀ i, i < k → a i = nw i) (by
    intro n k a hk hi
    refine ⟨upd a k (nw k), ?_, fun i h => ?_⟩
    · show m_X7_anew_L26 F me (n + 1) (nI k) _ a nw = m_X7_anew_L26 F me n (nI (k + 1)) _ (upd a k (nw k)) nw
      rw [u_X7_anew_L26, if_neg (show ¬ (14 : Int32) ≤ nI k from nI_ge (b := 14) hk (by omega)), pn_ck hk (by omega), pn_ck hk (by omega), nI_clamp (by omega), nI_1]
    · by_cases hh : i = k
      · rw [hh, upd_same]
      · rw [upd_ne hh]; exact hi i (by omega)) 14 F 0 mac (by omega) (by omega) (fun i h => by omega)
  refine ⟨a2, nw, ?_, fun hp i hi => ?_⟩
  · have e2 : m_X7_anew_L26 F me F 0 (q1, nI (X 8 0), nI (X 8 1), q4, 0, 0, -1, 0, q9, q10, q11) mac nw = m_X7_anew_L26 F me (n2 + 1) (nI 14) (q1, nI (X 8 0), nI (X 8 1), q4, 0, 0, -1, 0, q9, q10, q11) a2 nw := e2
    show m_X7_anew_L26 F me F 0 (q1, nI (X 8 0), nI (X 8 1), q4, 0, 0, -1, 0, q9, q10, q11) mac nw = _
    rw [e2, u_X7_anew_L26, if_pos (show (14 : Int32) ≤ nI 14 by decide)]
  · rw [h2 i hi, h1 i hi, if_pos hp]
theorem pq_take {F : Nat} (hF : 2000 ≤ F) (zQ : QT) (mac now : Nat → Int32) : ∃ now', m_X7_take F zQ mac now = some now' ∧ ∀ i, i < 14 → now' i = mac i := by
  unfold m_X7_take
  obtain ⟨n2, a2, e2, h2⟩ := lpA (L := fun n k a => m_X7_take_L2 F zQ mac n (nI k) a) (N := 14) (Inv := fun k a => ∀ i, i < k → a i = mac i) (by
    intro n k a hk hi
    refine ⟨upd a k (mac k), ?_, fun i h => ?_⟩
    · show m_X7_take_L2 F zQ mac (n + 1) (nI k) a = m_X7_take_L2 F zQ mac n (nI (k + 1)) (upd a k (mac k))
      rw [u_X7_take_L2, if_neg (show ¬ (14 : Int32) ≤ nI k from nI_ge (b := 14) hk (by omega)), pn_ck hk (by omega), pn_ck hk (by omega), nI_clamp (by omega), nI_1]
    · by_cases hh : i = k
      · rw [hh, upd_same]
      · rw [upd_ne hh]; exact hi i (by omega)) 14 F 0 now (by omega) (by omega) (fun i h => by omega)
  refine ⟨a2, ?_, h2⟩
  have e2 : m_X7_take_L2 F zQ mac F 0 now = m_X7_take_L2 F zQ mac (n2 + 1) (nI 14) a2 := e2
  rw [e2, u_X7_take_L2, if_pos (show (14 : Int32) ≤ nI 14 by decide)]
/-! what was told -/
def iD (X : Nat → Nat → Nat) (tc : Nat) (ts : Nat → Int32) (te : Nat → Nat) (zD : Int32) (ds de : Nat → Int32) (zQ : QT) (qs qe : Nat → Int32) : Prop := zD = nI tc ∧ tc ≤ 60 ∧ zQ.2.2.2.2.1 = nI tc ∧ (∀ i, i < tc → ds i = ts i ∧ qs i = ts i ∧ de i = nI (te i) ∧ qe i = nI (te i) ∧ te i ≤ X 8 0 + X 8 1) ∧ (∀ i j, i < tc → j < tc → ts i = ts j → i = j)
theorem pc_dfind {F : Nat} (hF : 2000 ≤ F) {tc : Nat} {ts : Nat → Int32} {ds : Nat → Int32} (htc : tc ≤ 60) (hds : ∀ i, i < tc → ds i = ts i) (x : Int32) : (∃ i, i < tc ∧ ts i = x ∧ m_X1_find F x (nI tc) ds = some (nI i) ∧ ∀ j, j < i → ts j ≠ x) ∨ ((∀ i, i < tc → ts i ≠ x) ∧ m_X1_find F x (nI tc) ds = some (-1)) := by
  have key : ∀ (d k n : Nat), k + d = tc → d < n → (∀ i, i < k → ts i ≠ x) → (∃ i, i < tc ∧ ts i = x ∧ m_X1_find_L2 F (nI tc) ds n x (nI k) = some (nI i) ∧ ∀ j, j < i → ts j ≠ x) ∨ ((∀ i, i < tc → ts i ≠ x) ∧ m_X1_find_L2 F (nI tc) ds n x (nI k) = some (-1)) := by
    intro d
    induction d with
    | zero =>
      intro k n hk hn hno
      obtain ⟨n, rfl⟩ : ∃ m, n = m + 1 := ⟨n - 1, by omega⟩
      right
      refine ⟨fun i hi => hno i (by omega), ?_⟩
      rw [u_X1_find_L2, if_pos (nI_le (by omega) (by omega))]
    | succ d ih =>
      intro k n hk hn hno
      obtain ⟨n, rfl⟩ : ∃ m, n = m + 1 := ⟨n - 1, by omega⟩
      rw [u_X1_find_L2, if_neg (nI_ge (by omega) (by omega)), pn_ck (by omega) (by omega), nI_clamp (by omega), hds k (by omega)]
      by_cases hh : ts k = x
      · rw [if_pos hh]
        exact Or.inl ⟨k, by omega, hh, rfl, hno⟩
      · rw [if_neg hh, nI_1]
        exact ih (k + 1) n (by omega) (by omega) (fun i hi => by
          by_cases h : i = k
          · rw [h]; exact hh
          · exact hno i (by omega))
  unfold m_X1_find
  exact key tc 0 F (by omega) (by omega) (fun i hi => by omega)
/-- both give the same event -/
theorem ev_same {F : Nat} (hF : 2000 ≤ F) {X : Nat → Nat → Nat} {tc : Nat} {ts : Nat → Int32} {te : Nat → Nat} {zD : Int32} {ds de : Nat → Int32} {zQ : QT} {qs qe : Nat → Int32} (h : iD X tc ts te zD ds de zQ qs qe) (x : Int32) : ∃ e, e ≤ X 8 0 + X 8 1 ∧ m_X1_eventOf F x zD ds de = some (nI e) ∧ ∀ zR : QT, zR.2.2.2.2.1 = nI tc → m_X7_eventOf F x zR qs qe = some (nI e) := by
  obtain ⟨rfl, htc, -, hall, hdist⟩ := h
  -- the reference goes through all
  have key : ∀ (zR : QT), zR.2.2.2.2.1 = nI tc → ∀ (d k n e : Nat), k + d = tc → d < n → ∃ e', m_X7_eventOf_L4 F zR qs qe n x (nI e) (nI k) = some (nI e') ∧ ((∀ i, k ≤ i → i < tc → ts i ≠ x) → e' = e) ∧ ∀ i, k ≤ i → i < tc → ts i = x → e' = te i := by
    intro zR hzR d
    induction d with
    | zero =>
      intro k n e hk hn
      obtain ⟨n, rfl⟩ : ∃ m, n = m + 1 := ⟨n - 1, by omega⟩
      refine ⟨e, ?_, fun _ => rfl, fun i h1 h2 => by omega⟩
      rw [u_X7_eventOf_L4, hzR, if_pos (nI_le (by omega) (by omega))]
    | succ d ih =>
      intro k n e hk hn
      obtain ⟨n, rfl⟩ : ∃ m, n = m + 1 := ⟨n - 1, by omega⟩
      obtain ⟨-, a2, -, a4, -⟩ := hall k (by omega)
      rw [u_X7_eventOf_L4, hzR, if_neg (nI_ge (by omega) (by omega)), pn_ck (by omega) (by omega), nI_clamp (by omega), a2, a4]
      unfold m_X7_eventOf_J32
      by_cases hh : ts k = x
      · rw [if_pos hh, pn_ck (by omega) (by omega), nI_1]
        obtain ⟨e', g1, g2, g3⟩ := ih (k + 1) n (te k) (by omega) (by omega)
        have hk2 : e' = te k := g2 (fun i h1 h2 h3 => by have := hdist i k h2 (by omega) (h3.trans hh.symm); omega)
        refine ⟨e', g1, fun h => absurd hh (h k (Nat.le_refl _) (by omega)), fun i h1 h2 h3 => ?_⟩
        have := hdist i k h2 (by omega) (h3.trans hh.symm)
        rw [this]; exact hk2
      · rw [if_neg hh, nI_1]
        obtain ⟨e', g1, g2, g3⟩ := ih (k + 1) n e (by omega) (by omega)
        refine ⟨e', g1, fun h => g2 (fun i h1 h2 => h i (by omega) h2), fun i h1 h2 h3 => ?_⟩
        by_cases h4 : i = k
        · rw [h4] at h3; exact absurd h3 hh
        · exact g3 i (by omega) h2 h3
  unfold m_X1_eventOf m_X7_eventOf
  rcases pc_dfind hF htc (fun i hi => (hall i hi).1) x with ⟨i, h1, h2, h3, -⟩ | ⟨h1, h2⟩
  · obtain ⟨-, -, a3, -, a5⟩ := hall i h1
    refine ⟨te i, a5, ?_, fun zR hzR => ?_⟩
    · rw [h3, pn_bd, if_neg (nI_pos (by omega)), pn_ck (by omega) (by omega), nI_clamp (by omega), a3]
    · obtain ⟨e', g1, -, g3⟩ := key zR hzR tc 0 F 0 (by omega) (by omega)
      show m_X7_eventOf_L4 F zR qs qe F x (nI 0) (nI 0) = _
      rw [g1, g3 i (by omega) h1 h2]
  · refine ⟨0, Nat.zero_le _, ?_, fun zR hzR => ?_⟩
    · rw [h2, pn_bd, if_pos (show (-1 : Int32) < 0 by decide)]; rfl
    · obtain ⟨e', g1, g2, -⟩ := key zR hzR tc 0 F 0 (by omega) (by omega)
      show m_X7_eventOf_L4 F zR qs qe F x (nI 0) (nI 0) = _
      rw [g1, g2 (fun i _ h => h1 i h)]
theorem tl_same {F : Nat} (hF : 2000 ≤ F) {X : Nat → Nat → Nat} {tc : Nat} {ts : Nat → Int32} {te : Nat → Nat} {zS zD : Int32} {ds de : Nat → Int32} (q1 q2 q3 q4 q7 q8 q9 q10 q11 : Int32) {qs qe : Nat → Int32} (h : iD X tc ts te zD ds de (q1, q2, q3, q4, nI tc, zS, q7, q8, q9, q10, q11) qs qe) (x : Int32) {ev : Nat} (hev : ev ≤ X 8 0 + X 8 1) :
    ∃ r zD' ds' de' q5' qs' qe' tc' ts' te', m_X6_note F (nI ev) x zS zD ds de = some (nI (b2n r), (zD', ds', de')) ∧ m_X7_tell F x (nI ev) (q1, q2, q3, q4, nI tc, zS, q7, q8, q9, q10, q11) qs qe = some (nI (b2n r), ((q1, q2, q3, q4, q5', zS, q7, q8, q9, q10, q11), qs', qe')) ∧ iD X tc' ts' te' zD' ds' de' (q1, q2, q3, q4, q5', zS, q7, q8, q9, q10, q11) qs' qe' := by
  obtain ⟨rfl, htc, -, hall, hdist⟩ := id h
  unfold m_X6_note m_X7_tell m_X1_add
  by_cases hx : x ≤ zS
  · rw [if_pos hx, if_pos (show x ≤ (q1, q2, q3, q4, nI tc, zS, q7, q8, q9, q10, q11).2.2.2.2.2.1 from hx)]
    exact ⟨false, _, _, _, _, _, _, tc, ts, te, rfl, rfl, h⟩
  · rw [if_neg hx, if_neg (show ¬ x ≤ (q1, q2, q3, q4, nI tc, zS, q7, q8, q9, q10, q11).2.2.2.2.2.1 from hx)]
    by_cases h60 : tc = 60
    · rw [if_pos (show (60 : Int32) ≤ nI tc from nI_le (a := 60) (by omega) (by omega)), pn_bd, if_pos (show (q1, q2, q3, q4, nI tc, zS, q7, q8, q9, q10, q11).2.2.2.2.1 = 60 by show nI tc = 60; rw [h60]; rfl)]
      exact ⟨false, _, _, _, _, _, _, tc, ts, te, rfl, rfl, h⟩
    · rw [if_neg (show ¬ (60 : Int32) ≤ nI tc from nI_ge (b := 60) (by omega) (by omega)), if_neg (show ¬ (q1, q2, q3, q4, nI tc, zS, q7, q8, q9, q10, q11).2.2.2.2.1 = 60 from fun h => h60 ((nI_eq (b := 60) (by omega) (by omega)).mp h))]
      have key : ∀ (d k n : Nat), k + d = tc → d < n → (∀ i, i < k → ts i ≠ x) → (∃ i, i < tc ∧ ts i = x ∧ m_X7_tell_L21 F n x (nI ev) (nI k) (q1, q2, q3, q4, nI tc, zS, q7, q8, q9, q10, q11) qs qe = some (0, ((q1, q2, q3, q4, nI tc, zS, q7, q8, q9, q10, q11), qs, qe))) ∨ ((∀ i, i < tc → ts i ≠ x) ∧ m_X7_tell_L21 F n x (nI ev) (nI k) (q1, q2, q3, q4, nI tc, zS, q7, q8, q9, q10, q11) qs qe = some (1, ((q1, q2, q3, q4, nI (tc + 1), zS, q7, q8, q9, q10, q11), upd qs tc x, upd qe tc (nI ev)))) := by
        intro d
        induction d with
        | zero =>
          intro k n hk hn hno
          obtain ⟨n, rfl⟩ : ∃ m, n = m + 1 := ⟨n - 1, by omega⟩
          right
          refine ⟨fun i hi => hno i (by omega), ?_⟩
          rw [u_X7_tell_L21, if_pos (show (q1, q2, q3, q4, nI tc, zS, q7, q8, q9, q10, q11).2.2.2.2.1 ≤ nI k from nI_le (by omega) (by omega))]
          show gk_ck (nI tc) 60 (gk_ck (nI tc) 60 (some (1, ((q1, q2, q3, q4, nI tc + 1, zS, q7, q8, q9, q10, q11), upd qs (nI tc).toNatClampNeg x, upd qe (nI tc).toNatClampNeg (nI ev))))) = _
          rw [pn_ck (by omega) (by omega), pn_ck (by omega) (by omega), nI_clamp (by omega), nI_1]
        | succ d ih =>
          intro k n hk hn hno
          obtain ⟨n, rfl⟩ : ∃ m, n = m + 1 := ⟨n - 1, by omega⟩
          rw [u_X7_tell_L21, if_neg (show ¬ (q1, q2, q3, q4, nI tc, zS, q7, q8, q9, q10, q11).2.2.2.2.1 ≤ nI k from nI_ge (by omega) (by omega)), pn_ck (by omega) (by omega), nI_clamp (by omega), (hall k (by omega)).2.1]
          by_cases hh : ts k = x
          · rw [if_pos hh]
            exact Or.inl ⟨k, by omega, hh, rfl⟩
          · rw [if_neg hh, nI_1]
            exact ih (k + 1) n (by omega) (by omega) (fun i hi => by
              by_cases h : i = k
              · rw [h]; exact hh
              · exact hno i (by omega))
      rcases pc_dfind hF htc (fun i hi => (hall i hi).1) x with ⟨i, h1, h2, h3, -⟩ | ⟨h1, h2⟩
      · rw [h3, pn_bd, if_neg (nI_pos (by omega)), pn_bd]
        rcases key tc 0 F (by omega) (by omega) (fun i hi => by omega) with ⟨j, -, -, e2⟩ | ⟨hno, -⟩
        · exact ⟨false, _, _, _, _, _, _, tc, ts, te, rfl, e2, h⟩
        · exact absurd h2 (hno i h1)
      · rw [h2, pn_bd, if_pos (show (-1 : Int32) < 0 by decide), pn_ck (by omega) (by omega), pn_ck (by omega) (by omega), pn_bd, nI_clamp (by omega), nI_1]
        rcases key tc 0 F (by omega) (by omega) (fun i hi => by omega) with ⟨j, hj, hj2, -⟩ | ⟨hno, e2⟩
        · exact absurd hj2 (h1 j hj)
        · refine ⟨true, _, _, _, _, _, _, tc + 1, upd ts tc x, sU te tc ev, rfl, e2, rfl, by omega, rfl, fun i hi => ?_, fun i j hi hj hij => ?_⟩
          · unfold upd sU
            by_cases hh : i = tc
            · simp only [hh, if_true]; exact ⟨trivial, trivial, trivial, trivial, hev⟩
            · simp only [hh, if_false]; exact hall i (by omega)
          · unfold upd at hij
            by_cases hh : i = tc
            · by_cases hg : j = tc
              · omega
              · rw [if_pos hh, if_neg hg] at hij
                exact absurd hij.symm (hno j (by omega))
            · by_cases hg : j = tc
              · rw [if_neg hh, if_pos hg] at hij
                exact absurd hij (hno i (by omega))
              · rw [if_neg hh, if_neg hg] at hij
                exact hdist i j (by omega) (by omega) hij
