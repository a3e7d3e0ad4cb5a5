/-! the class finds all states -/
theorem n10 : ¬ (1 : Nat) = 0 := by decide
theorem n21 : ¬ (2 : Nat) = 1 := by decide
theorem n20 : ¬ (2 : Nat) = 0 := by decide
theorem n01 : ¬ (0 : Nat) = 1 := by decide
theorem xE_le {X : Nat → Nat → Nat} (hX : xG X) : xE X ≤ 10 := by
  have h1 := hX.2.1
  have h2 := hX.2.2.1
  unfold xE; omega
theorem dep_mono {par : Nat → Nat} {fd : Nat} (hp : ∀ i, 1 ≤ i → i < fd → par i < i) : ∀ (n s : Nat), s < fd → s ≤ n → dep par (n + 1) s = dep par n s := by
  intro n
  induction n with
  | zero => intro s hs h; have : s = 0 := by omega
            subst this; rfl
  | succ n ih =>
    intro s hs h
    by_cases h0 : s = 0
    · subst h0; rfl
    · have h1 := hp s (by omega) hs
      show (if s = 0 then 0 else dep par (n + 1) (par s) + 1) = (if s = 0 then 0 else dep par n (par s) + 1)
      rw [if_neg h0, if_neg h0, ih (par s) (by omega) (by omega)]
theorem dep_step {par : Nat → Nat} {fd : Nat} (hp : ∀ i, 1 ≤ i → i < fd → par i < i) (hfd : fd ≤ 400) {s : Nat} (h0 : 0 < s) (hs : s < fd) : dep par 400 s = dep par 400 (par s) + 1 := by
  have h1 := hp s h0 hs
  have h2 : dep par 400 s = dep par 399 (par s) + 1 := if_neg (by omega)
  rw [h2, ← dep_mono hp 399 (par s) (by omega) (by omega)]
theorem dep_zero (par : Nat → Nat) : dep par 400 0 = 0 := rfl
theorem dep_le {par : Nat → Nat} {fd : Nat} (hp : ∀ i, 1 ≤ i → i < fd → par i < i) (hfd : fd ≤ 400) : ∀ s, s < fd → dep par 400 s ≤ s := by
  intro s
  induction s using Nat.strongRecOn with
  | ind s ih =>
    intro hs
    by_cases h0 : s = 0
    · subst h0; exact Nat.le_refl _
    · have h1 := hp s (by omega) hs
      rw [dep_step hp hfd (by omega) hs]
      have := ih (par s) h1 (by omega)
      omega
theorem pc_trace {F : Nat} (hF : 2000 ≤ F) {pa : Nat → Int32} {par : Nat → Nat} {fd : Nat} (hfd : fd ≤ 400) (hp : ∀ i, 1 ≤ i → i < fd → par i < i) (hpa : ∀ i, i < fd → pa i = nI (par i)) (z1 z2 z3 z4 z5 : Int32) (z6 : Int64) (path : Nat → Int32) {s : Nat} (hs : s < fd) :
    ∃ path', m_X4_trace F (nI s) (z1, z2, z3, z4, z5, z6) pa path = some ((z1, z2, nI (dep par 400 s), z4, z5, z6), path') ∧ ∀ j, j < dep par 400 s → path' j = nI (anc par s j) := by
  have key : ∀ (s : Nat), s < fd → ∀ (n k : Nat) (path : Nat → Int32), s < n → k + s < 400 → ∃ path', m_X4_trace_L7 F pa n (nI s) (z1, z2, nI k, z4, z5, z6) path = some ((z1, z2, nI (k + dep par 400 s), z4, z5, z6), path') ∧ (∀ i, i < k → path' i = path i) ∧ ∀ j, j < dep par 400 s → path' (k + j) = nI (anc par s j) := by
    intro s
    induction s using Nat.strongRecOn with
    | ind s ih =>
      intro hs n k path hn hk
      obtain ⟨n, rfl⟩ : ∃ m, n = m + 1 := ⟨n - 1, by omega⟩
      by_cases h0 : s = 0
      · subst h0
        refine ⟨path, ?_, fun i _ => rfl, fun j hj => by rw [dep_zero] at hj; omega⟩
        rw [u_X4_trace_L7, if_pos (show nI 0 ≤ 0 by decide), dep_zero, Nat.add_zero]
      · have h1 := hp s (by omega) hs
        obtain ⟨path', e, g1, g2⟩ := ih (par s) h1 (by omega) n (k + 1) (upd path k (nI s)) (by omega) (by omega)
        refine ⟨path', ?_, fun i hi => ?_, fun j hj => ?_⟩
        · rw [u_X4_trace_L7, if_neg (nI_nle (by omega) (by omega)), if_neg (show ¬ (400 : Int32) ≤ nI k from nI_ge (b := 400) (by omega) (by omega)), pn_ck (by omega) (by omega), pn_ck (by omega) (by omega), nI_clamp (by omega), nI_clamp (by omega), hpa s hs]
          rw [show k + dep par 400 s = k + 1 + dep par 400 (par s) by rw [dep_step hp hfd (by omega) hs]; omega]
          show m_X4_trace_L7 F pa n (nI (par s)) (z1, z2, nI k + 1, z4, z5, z6) _ = _
          rw [nI_1]; exact e
        · rw [g1 i (by omega), upd_ne (by omega)]
        · rw [dep_step hp hfd (by omega) hs] at hj
          cases j with
          | zero => rw [Nat.add_zero, g1 k (by omega), upd_same]; rfl
          | succ j =>
            have := g2 j (by omega)
            rw [show k + (j + 1) = k + 1 + j by omega, this, anc_par]
  obtain ⟨path', e, -, g⟩ := key s hs F 0 path (by omega) (by omega)
  refine ⟨path', ?_, fun j hj => by have := g j hj; rwa [Nat.zero_add] at this⟩
  rw [Nat.zero_add] at e
  exact e
def cD (D : BD) (fdI : Int32) (ks : Nat → Int64) (pa ev sl : Nat → Int32) : Prop := fdI = nI D.1 ∧ (∀ i, i < D.1 → ks i = lN (pkN (D.2.1 i))) ∧ (∀ i, i < D.1 → pa i = nI (D.2.2.1 i) ∧ ev i = nI (D.2.2.2.1 i)) ∧ ∃ v, (∀ j, j < 1024 → sl j = nI (v j)) ∧ HT (fun i => pkN (D.2.1 i)) D.1 v
def dNx (X : Nat → Nat → Nat) (D : BD) (nx : Nat → Int32) (s e : Nat) : Prop := ∀ s' e', e' < xE X → (s' < s ∨ (s' = s ∧ e' < e)) → nx (10 * s' + e') = nI (D.2.2.2.2 (10 * s' + e')) ∧ D.2.2.2.2 (10 * s' + e') < D.1
theorem pk_eq14 {X : Nat → Nat → Nat} (hX : xG X) {s t : Nat → Nat} (hs : sV X s) (ht : sV X t) : (pkN s = pkN t) ↔ eq14 s t = true :=
  ⟨fun h => eq14_iff.mpr (pk_inj (sV_b hX hs) (sV_b hX ht) h), fun h => pk_cong (eq14_iff.mp h)⟩
/-- the class's number of a state -/
theorem pc_find {X : Nat → Nat → Nat} (hX : xG X) {F : Nat} (hF : 2000 ≤ F) {lim : Nat} (hlim : lim ≤ 400) {D : BD} {zP : Int32 × Int32 × Int32 × Int32 × Int32 × Int64} {ks : Nat → Int64} {pa ev sl : Nat → Int32} (hw : bW X lim D) (hd : cD D zP.1 ks pa ev sl) {t : Nat → Nat} (ht : sV X t) : m_X4_numberOf F (lN (pkN t)) zP ks sl = some (if fIdx D.2.1 D.1 t < D.1 then nI (fIdx D.2.1 D.1 t) else -1) := by
  obtain ⟨-, h2, -, v, h3, h4⟩ := hd
  have hlt : ∀ {t : Nat → Nat}, sV X t → pkN t < 2 ^ 64 := fun h => by have := pkN_lt (sV_b hX h); omega
  have hK : ∀ i, i < D.1 → ks i = lN (pkN (D.2.1 i)) ∧ pkN (D.2.1 i) < 2 ^ 64 := fun i hi => ⟨h2 i hi, hlt (hw.2.1 i hi)⟩
  have hfd : D.1 ≤ 400 := by have := hw.1.2; omega
  rcases pc_num hF (zP := zP) hfd hK h3 h4 (hlt ht) with ⟨i, g1, g2, g3⟩ | ⟨g1, g2⟩
  · have he := (pk_eq14 hX (hw.2.1 i g1) ht).mp g2
    rcases fIdx_spec D.2.1 D.1 t with ⟨k1, k2, k3⟩ | ⟨k1, k2⟩
    · have : i = fIdx D.2.1 D.1 t := hw.2.2.1 i _ g1 k1 (eq14_iff.mpr (fun j hj => by rw [eq14_iff.mp he j hj, k2 j hj]))
      rw [g3, if_pos k1, ← this]
    · rw [k2 i g1] at he; exact absurd he (by decide)
  · rcases fIdx_spec D.2.1 D.1 t with ⟨k1, k2, k3⟩ | ⟨k1, k2⟩
    · exact absurd (pk_cong k2) (g1 _ k1)
    · rw [g2, if_neg (by omega)]
theorem cD_old {D : BD} {fdI : Int32} {ks : Nat → Int64} {pa ev sl : Nat → Int32} (h : cD D fdI ks pa ev sl) (s e j : Nat) : cD (bOld D s e j) fdI ks pa ev sl := h
theorem dNx_upd {X : Nat → Nat → Nat} (hX : xG X) {D : BD} {nx : Nat → Int32} {s e j : Nat} (h : dNx X D nx s e) (hj : j < D.1) : dNx X (bOld D s e j) (upd nx (10 * s + e) (nI j)) s (e + 1) := by
  intro s' e' he' hc
  have hE := xE_le hX
  unfold bOld upd sU
  by_cases hh : 10 * s' + e' = 10 * s + e
  · simp only [hh, if_true]; exact ⟨trivial, hj⟩
  · simp only [hh, if_false]
    rcases hc with hc | ⟨hc, hc2⟩
    · exact h s' e' he' (Or.inl hc)
    · exact h s' e' he' (Or.inr ⟨hc, by omega⟩)
theorem pc_link {F s e j : Nat} {nx : Nat → Int32} (hs : s < 400) (he : e < 10) (hj : j < 400) : m_X5_link F (nI s) (nI e) (nI j) nx = some (upd nx (10 * s + e) (nI j)) := by
  unfold m_X5_link
  rw [show nI s * 10 = nI (s * 10) from pk_mul s 10, nI_add, if_neg (show ¬ nI (s * 10 + e) < (0 : Int32) from nI_nlt (b := 0) (by omega) (by omega)), if_neg (show ¬ Int32.ofNat 4000 ≤ nI (s * 10 + e) from nI_ge (b := 4000) (by omega) (by omega)), if_neg (show ¬ nI j < (0 : Int32) from nI_nlt (b := 0) (by omega) (by omega)), if_neg (show ¬ (400 : Int32) ≤ nI j from nI_ge (b := 400) (by omega) (by omega)), pn_ck (by omega) (by omega), nI_clamp (by omega), show s * 10 + e = 10 * s + e by omega]
theorem pc_row {F : Nat} {X : Nat → Nat → Nat} {zX : Int32 × Int32} {cl be le mo ph me sh lo : Nat → Int32} (hF : 2000 ≤ F) (hX : xG X) (hc : cX X zX cl be le mo ph me sh lo) {lim s : Nat} (hlim : lim ≤ 400) : ∀ (d e n : Nat) (D : BD) (z2 z3 z4 z5 : Int32) (z6 : Int64) (zm : Int32 × Int32 × Int32 × Int32 × Int32 × Int32 × Int32 × Int32) (za nx : Nat → Int32) (ks : Nat → Int64) (pa ev sl path : Nat → Int32), e + d = xE X → d < n → bW X lim D → cD D (nI D.1) ks pa ev sl → dNx X D nx s e → s < D.1 →
    ∃ z3' z4' z5' z6' zm' za' nx' ks' pa' ev' sl' path', m_X4_expand_L2 F zX cl be le mo ph me sh lo n (nI s) (nI lim) (nI e) (nI D.1, z2, z3, z4, z5, z6) zm za nx ks pa ev sl path = some (nI (bRow X lim s d e D).1, ((nI (bRow X lim s d e D).2.2.1, z2, z3', z4', z5', z6'), zm', za', nx', ks', pa', ev', sl', path')) ∧
      cD (bRow X lim s d e D).2.2 (nI (bRow X lim s d e D).2.2.1) ks' pa' ev' sl' ∧ dNx X (bRow X lim s d e D).2.2 nx' s (bRow X lim s d e D).2.1 ∧ (bRow X lim s d e D).2.1 ≤ xE X ∧ ((bRow X lim s d e D).1 = 1 → (bRow X lim s d e D).2.1 = xE X) ∧ (bRow X lim s d e D).1 ≤ 2 ∧
      ((bRow X lim s d e D).1 = 0 → (bRow X lim s d e D).2.1 < xE X ∧ sFault X (bRow X lim s d e D).2.1 ((bRow X lim s d e D).2.2.2.1 s) ≠ 0 ∧ z3' = nI (dep (bRow X lim s d e D).2.2.2.2.1 400 s) ∧ z4' = nI (bRow X lim s d e D).2.1 ∧ z5' = nI (sFault X (bRow X lim s d e D).2.1 ((bRow X lim s d e D).2.2.2.1 s)) ∧ z6' = lN (pkN (sGo X (bRow X lim s d e D).2.1 ((bRow X lim s d e D).2.2.2.1 s))) ∧ ∀ j, j < dep (bRow X lim s d e D).2.2.2.2.1 400 s → path' j = nI (anc (bRow X lim s d e D).2.2.2.2.1 s j)) := by
  have hE := xE_le hX
  have hN := hX.2.1
  have hPn := hX.2.2.1
  have hec : m_X0_eventCount F zX = some (nI (xE X)) := by
    unfold m_X0_eventCount xE
    rw [hc.1]
    show some ((1 + nI (X 8 0)) + nI (X 8 1)) = _
    rw [pl_1, nI_add, nI_add]
  intro d
  induction d with
  | zero =>
    intro e n D z2 z3 z4 z5 z6 zm za nx ks pa ev sl path he hn hw hd hx hs
    obtain ⟨n, rfl⟩ : ∃ m, n = m + 1 := ⟨n - 1, by omega⟩
    have he : e = xE X := by omega
    refine ⟨z3, z4, z5, z6, zm, za, nx, ks, pa, ev, sl, path, ?_, hd, hx, ?_, fun _ => he, ?_, fun h => absurd h n10⟩
    · rw [u_X4_expand_L2, hec, pn_bd, if_pos (nI_le (by omega) (by omega))]; rfl
    · exact Nat.le_of_eq he
    · exact (by decide : (1 : Nat) ≤ 2)
  | succ d ih =>
    intro e n D z2 z3 z4 z5 z6 zm za nx ks pa ev sl path he hn hw hd hx hs
    obtain ⟨n, rfl⟩ : ∃ m, n = m + 1 := ⟨n - 1, by omega⟩
    have hfd : D.1 ≤ 400 := by have := hw.1.2; omega
    have hsv := hw.2.1 s hs
    have hgv := sV_go hX (e := e) hsv (by unfold xE at he; omega)
    obtain ⟨zm1, za1, e1, hR1⟩ := pc_unpack hF zm za (sV_b hX hsv)
    obtain ⟨zm2, za2, e2, hR2⟩ := pc_step hF hX hc (e := e) hsv (by unfold xE at he; omega) hR1
    have e3 := pc_pack hF (sV_b hX hgv) hR2
    have hfl : sFault X e (D.2.1 s) ≤ 4 := by
      unfold sFault sFl
      repeat' split
      all_goals omega
    rw [u_X4_expand_L2, hec, pn_bd, if_neg (nI_ge (by omega) (by omega)), pn_ck (by omega) (by omega), nI_clamp (by omega), hd.2.1 s hs, e1, pn_bd]
    show ∃ z3' z4' z5' z6' zm' za' nx' ks' pa' ev' sl' path', gk_bd (m_X2_step F (nI e) zm1 zX cl be le mo ph me sh lo za1) _ = _ ∧ _
    rw [e2, pn_bd]
    show ∃ z3' z4' z5' z6' zm' za' nx' ks' pa' ev' sl' path', gk_bd (m_X2_packed F zm2 za2) _ = _ ∧ _
    rw [e3, pn_bd]
    by_cases hf : sFault X e (D.2.1 s) = 0
    · show ∃ z3' z4' z5' z6' zm' za' nx' ks' pa' ev' sl' path', (if nI (sFault X e (D.2.1 s)) = 0 then gk_bd (m_X4_numberOf F (lN (pkN (sGo X e (D.2.1 s)))) (nI D.1, z2, z3, z4, z5, z6) ks sl) _ else _) = _ ∧ _
      rw [if_pos (show nI (sFault X e (D.2.1 s)) = 0 by rw [hf]; rfl), pc_find hX hF hlim (zP := (nI D.1, z2, z3, z4, z5, z6)) hw hd hgv, pn_bd]
      by_cases hj : fIdx D.2.1 D.1 (sGo X e (D.2.1 s)) < D.1
      · have hB : bRow X lim s (d + 1) e D = bRow X lim s d (e + 1) (bOld D s e (fIdx D.2.1 D.1 (sGo X e (D.2.1 s)))) := by
          show (if _ then _ else _) = _
          rw [if_pos hf, if_pos hj]
        rw [if_pos hj, hB, if_neg (show ¬ nI (fIdx D.2.1 D.1 (sGo X e (D.2.1 s))) = -1 from fun h => by
          have h1 := nI_toInt (n := fIdx D.2.1 D.1 (sGo X e (D.2.1 s))) (by omega)
          rw [h] at h1
          have h2 : (-1 : Int32).toInt = -1 := by decide
          omega)]
        unfold m_X4_expand_J108
        rw [pc_link (by omega) (by omega) (by omega), pn_bd, nI_1]
        exact ih (e + 1) n (bOld D s e (fIdx D.2.1 D.1 (sGo X e (D.2.1 s)))) z2 z3 z4 z5 z6 zm2 za2 _ ks pa ev sl path (by omega) (by omega) (bW_old hw s e _) (cD_old hd s e _) (dNx_upd hX hx hj) hs
      · rw [if_neg hj, if_pos rfl]
        by_cases hl : D.1 = lim
        · have hB : bRow X lim s (d + 1) e D = (2, e, D) := by
            show (if _ then _ else _) = _
            rw [if_pos hf, if_neg hj, if_pos hl]
          rw [hB, if_neg (show ¬ (nI D.1, z2, z3, z4, z5, z6).1 < nI lim from nI_nlt (by omega) (by omega))]
          exact ⟨z3, z4, z5, z6, zm2, za2, nx, ks, pa, ev, sl, path, rfl, hd, hx, (by show e ≤ xE X; omega), fun h => absurd h n21, (by decide : (2 : Nat) ≤ 2), fun h => absurd h n20⟩
        · have hlt : D.1 < lim := by have := hw.1.2; omega
          have hB : bRow X lim s (d + 1) e D = bRow X lim s d (e + 1) (bNew X D s e) := by
            show (if _ then _ else _) = _
            rw [if_pos hf, if_neg hj, if_neg hl]
          have hno : ∀ j, j < D.1 → eq14 (D.2.1 j) (sGo X e (D.2.1 s)) = false := by
            rcases fIdx_spec D.2.1 D.1 (sGo X e (D.2.1 s)) with ⟨g1, _⟩ | ⟨_, g2⟩
            · exact absurd g1 hj
            · exact g2
          have hlt64 : ∀ {t : Nat → Nat}, sV X t → pkN t < 2 ^ 64 := fun h => by have := pkN_lt (sV_b hX h); omega
          obtain ⟨h1, h2, h3, v, h4, h5⟩ := id hd
          obtain ⟨sl', v', a1, a2, a3⟩ := pc_add hF (z2 := z2) (z3 := z3) (z4 := z4) (z5 := z5) (z6 := z6) (pa := pa) (ev := ev) (nI s) (nI e) (by omega) (fun i hi => ⟨h2 i hi, hlt64 (hw.2.1 i hi)⟩) h4 h5 (hlt64 hgv) (fun i hi hh => by
            have := (pk_eq14 hX (hw.2.1 i hi) hgv).mp hh
            rw [hno i hi] at this; exact absurd this (by decide))
          rw [hB, if_pos (show (nI D.1, z2, z3, z4, z5, z6).1 < nI lim from nI_lt hlt (by omega)), a1, pn_bd]
          unfold m_X4_expand_J108
          rw [pc_link (by omega) (by omega) (by omega), pn_bd, nI_1]
          refine ih (e + 1) n (bNew X D s e) z2 z3 z4 z5 z6 zm2 za2 _ _ _ _ _ path (by omega) (by omega) (bW_new hX hw hs (by omega) hf hno hlt) ⟨rfl, fun i hi => ?_, fun i hi => ?_, v', a2, ?_⟩ (fun s' e' he' hcc => ?_) (show s < D.1 + 1 by omega)
          · have hi : i < D.1 + 1 := hi
            by_cases hh : i = D.1
            · rw [hh]; show vp_updL ks D.1 _ D.1 = lN (pkN (if D.1 = D.1 then _ else _)); rw [updL_same, if_pos rfl]
            · show vp_updL ks D.1 _ i = lN (pkN (if i = D.1 then _ else _)); rw [updL_ne hh, if_neg hh]; exact h2 i (by omega)
          · have hi : i < D.1 + 1 := hi
            show upd pa D.1 _ i = nI (sU D.2.2.1 D.1 s i) ∧ upd ev D.1 _ i = nI (sU D.2.2.2.1 D.1 e i)
            unfold upd sU
            by_cases hh : i = D.1
            · simp only [hh, if_true, and_self]
            · simp only [hh, if_false]; exact h3 i (by omega)
          · have : (fun i => pkN ((bNew X D s e).2.1 i)) = sU (fun i => pkN (D.2.1 i)) D.1 (pkN (sGo X e (D.2.1 s))) := by
              funext i
              show pkN (if i = D.1 then _ else _) = if i = D.1 then _ else _
              split <;> rfl
            rw [this]; exact a3
          · show upd nx (10 * s + e) (nI D.1) (10 * s' + e') = nI (sU D.2.2.2.2 (10 * s + e) D.1 (10 * s' + e')) ∧ sU D.2.2.2.2 (10 * s + e) D.1 (10 * s' + e') < D.1 + 1
            unfold upd sU
            by_cases hh : 10 * s' + e' = 10 * s + e
            · simp only [hh, if_true]; exact ⟨trivial, by omega⟩
            · simp only [hh, if_false]
              have : nx (10 * s' + e') = nI (D.2.2.2.2 (10 * s' + e')) ∧ D.2.2.2.2 (10 * s' + e') < D.1 := by
                rcases hcc with hcc | ⟨hcc, hcc2⟩
                · exact hx s' e' he' (Or.inl hcc)
                · exact hx s' e' he' (Or.inr ⟨hcc, by omega⟩)
              exact ⟨this.1, by omega⟩
    · have hB : bRow X lim s (d + 1) e D = (0, e, D) := by
        show (if _ then _ else _) = _
        rw [if_neg hf]
      show ∃ z3' z4' z5' z6' zm' za' nx' ks' pa' ev' sl' path', (if nI (sFault X e (D.2.1 s)) = 0 then _ else gk_bd (m_X4_trace F (nI s) (nI D.1, z2, z3, nI e, nI (sFault X e (D.2.1 s)), lN (pkN (sGo X e (D.2.1 s)))) pa path) _) = _ ∧ _
      obtain ⟨path', t1, t2⟩ := pc_trace hF (par := D.2.2.1) hfd (fun i h1 h2 => (hw.2.2.2.2 i h1 h2).1) (fun i hi => (hd.2.2.1 i hi).1) (nI D.1) z2 z3 (nI e) (nI (sFault X e (D.2.1 s))) (lN (pkN (sGo X e (D.2.1 s)))) path hs
      rw [hB, if_neg (zn0 hf (by omega)), t1, pn_bd]
      exact ⟨_, _, _, _, zm2, za2, nx, ks, pa, ev, sl, path', rfl, hd, hx, (by show e ≤ xE X; omega), fun h => absurd h n01, (by decide : (0 : Nat) ≤ 2), fun _ => ⟨(by show e < xE X; omega), hf, rfl, rfl, rfl, rfl, t2⟩⟩
