/-! the reference finds all states -/
theorem pq_first {F : Nat} {X : Nat → Nat → Nat} {zQ : Int32 × Int32 × Int32 × Int32 × Int32 × Int32 × Int32 × Int32 × Int32 × Int32 × Int32} {kl be le mo ph me sh lo : Nat → Int32} (hF : 2000 ≤ F) (hX : xG X) (hq : qX X zQ kl be le mo ph me sh lo) {now : Nat → Int32} : ∃ now', m_X7_first F zQ me now = some now' ∧ qN (if 0 < X 8 1 then sIni X else fun _ => 0) now' := by
  have hN := hX.2.1
  have hP := hX.2.2.1
  unfold m_X7_first
  obtain ⟨n1, a1, e1, h1⟩ := lpA (L := fun n k a => m_X7_first_L2 F zQ me n (nI k) a) (N := 14) (Inv := fun k a => ∀ i, i < k → a i = nI 0) (by
    intro n k a hk hi
    refine ⟨upd a k 0, ?_, fun i h => ?_⟩
    · show m_X7_first_L2 F zQ me (n + 1) (nI k) a = m_X7_first_L2 F zQ me n (nI (k + 1)) (upd a k 0)
      rw [u_X7_first_L2, if_neg (show ¬ (14 : Int32) ≤ nI k from nI_ge (b := 14) hk (by omega)), pn_ck hk (by omega), nI_clamp (by omega), nI_1]
    · by_cases hh : i = k
      · rw [hh, upd_same]; rfl
      · rw [upd_ne hh]; exact hi i (by omega)) 14 F 0 now (by omega) (by omega) (fun i h => by omega)
  have e1 : m_X7_first_L2 F zQ me F 0 now = m_X7_first_L2 F zQ me (n1 + 1) (nI 14) a1 := e1
  rw [e1, u_X7_first_L2, if_pos (show (14 : Int32) ≤ nI 14 by decide)]
  by_cases hp : 0 < X 8 1
  · have h0 := (hX.2.2.2.2.2.2 0 hp).1
    have hm := (hq.2.2.2.2.2.2.2 0 hp 0 (by omega)).1
    have hm : me 0 = nI (sM X 0 0) := hm
    obtain ⟨n2, a2, e2, h2⟩ := lpA (L := fun n k a => m_X7_first_L23 F zQ me n (nI k) a) (N := X 8 0) (Inv := fun k a => ∀ i, i < 14 → a i = nI (if 8 ≤ i ∧ i < 8 + k then (if (sM X 0 0).testBit (i - 8) then 0 else 15) else 0)) (by
      intro n k a hk hi
      refine ⟨upd a (8 + k) (nI (if (sM X 0 0).testBit k then 0 else 15)), ?_, fun i h => ?_⟩
      · show m_X7_first_L23 F zQ me (n + 1) (nI k) a = m_X7_first_L23 F zQ me n (nI (k + 1)) _
        rw [u_X7_first_L23, hq.1, hq.2.1]
        cases hb : (sM X 0 0).testBit k
        · simp (disch := omega) only [pl_0, pl_1, pl_2, pl_3, pl_4, pl_5, pl_6, pl_7, pl_8, pl_9, pl_10, pl_11, pl_12, pl_13, pl_14, pl_15, pl_31, nI_add, pk_mul, pn_le, pn_lt, pn_eq, nI_clamp, pn_ck, pn_bd, pn_b0, pn_b1, pn_or, pn_andn, pm_andn, Nat.not_lt_zero, Nat.zero_le, ↓reduceIte, m_X7_first_J66, show ¬ X 8 0 ≤ k by omega, show ¬ X 8 1 ≤ 0 by omega, hm, hb, Bool.false_eq_true]
        · simp (disch := omega) only [pl_0, pl_1, pl_2, pl_3, pl_4, pl_5, pl_6, pl_7, pl_8, pl_9, pl_10, pl_11, pl_12, pl_13, pl_14, pl_15, pl_31, nI_add, pk_mul, pn_le, pn_lt, pn_eq, nI_clamp, pn_ck, pn_bd, pn_b0, pn_b1, pn_or, pn_andn, pm_andn, Nat.not_lt_zero, Nat.zero_le, ↓reduceIte, m_X7_first_J66, show ¬ X 8 0 ≤ k by omega, show ¬ X 8 1 ≤ 0 by omega, hm, hb]
      · by_cases hh : i = 8 + k
        · subst hh; rw [upd_same, if_pos (show 8 ≤ 8 + k ∧ 8 + k < 8 + (k + 1) from ⟨by omega, by omega⟩), show 8 + k - 8 = k by omega]
        · rw [upd_ne hh, hi i h]
          by_cases h3 : 8 ≤ i ∧ i < 8 + k
          · rw [if_pos h3, if_pos (show 8 ≤ i ∧ i < 8 + (k + 1) by omega)]
          · rw [if_neg h3, if_neg (show ¬ (8 ≤ i ∧ i < 8 + (k + 1)) by omega)]) (X 8 0) F 0 a1 (by omega) (by omega) (fun i h => by rw [h1 i h, if_neg (by omega)])
    have e2 : m_X7_first_L23 F zQ me F 0 a1 = m_X7_first_L23 F zQ me (n2 + 1) (nI (X 8 0)) a2 := e2
    refine ⟨a2, ?_, ?_⟩
    · rw [e2, u_X7_first_L23, hq.1, if_pos (nI_le (Nat.le_refl _) (by omega))]
    · rw [if_pos hp]; intro i h; exact h2 i h
  · refine ⟨a1, ?_, ?_⟩
    · obtain ⟨m, hm⟩ : ∃ m, F = m + 1 := ⟨F - 1, by omega⟩
      rw [show m_X7_first_L23 F zQ me F = m_X7_first_L23 F zQ me (m + 1) by rw [← hm]]
      show m_X7_first_L23 F zQ me (m + 1) (nI 0) a1 = _
      rw [u_X7_first_L23, hq.1, hq.2.1, show X 8 1 = 0 by omega]
      rw [if_neg (nI_ge (by have := hX.1; omega) (by omega)), if_pos (show nI 0 ≤ 0 by decide)]
    · rw [if_neg hp]; exact h1
theorem sV_lt {X : Nat → Nat → Nat} (hX : xG X) {s : Nat → Nat} (hs : sV X s) : ∀ i, i < 14 → s i < 2 ^ 31 := by
  have hb := sV_b hX hs
  obtain ⟨h0, h2, h3, h4, h6, h7, a0, a1, a2, a3, a4, a5, h1, h5⟩ := hb
  refine i14 ⟨by omega, by omega, by omega, by omega, by omega, by omega, by omega, by omega⟩ (fun g hg => ?_)
  have := hs.2.2.2.2.2.2.1 g hg
  omega
def qD (D : BD) (st cf cb : Nat → Int32) : Prop := (∀ i, i < D.1 → ∀ k, k < 14 → st (14 * i + k) = nI (D.2.1 i k)) ∧ (∀ i, i < D.1 → cf i = nI (D.2.2.1 i) ∧ cb i = nI (D.2.2.2.1 i))
theorem pq_find {X : Nat → Nat → Nat} (hX : xG X) {F : Nat} (hF : 2000 ≤ F) {lim : Nat} (hlim : lim ≤ 400) {D : BD} {zQ : Int32 × Int32 × Int32 × Int32 × Int32 × Int32 × Int32 × Int32 × Int32 × Int32 × Int32} {st cf cb now : Nat → Int32} (hfdz : zQ.2.2.2.2.2.2.2.1 = nI D.1) (hfd : D.1 ≤ lim) (hsv : ∀ i, i < D.1 → sV X (D.2.1 i)) (hd : qD D st cf cb) {t : Nat → Nat} (ht : sV X t) (hn : qN t now) : m_X7_find F zQ now st = some (if fIdx D.2.1 D.1 t < D.1 then nI (fIdx D.2.1 D.1 t) else -1) := by
  have tl := sV_lt hX ht
  -- one state
  have one : ∀ (k2 : (Int32) → Option (Int32)) (i : Nat), i < D.1 → ∀ (d k n : Nat), k + d = 14 → d + 1 < n → (∀ j, j < k → D.2.1 i j = t j) → m_X7_find_L14 F zQ now st k2 n (nI i) 1 (nI k) = if eq14 (D.2.1 i) t then some (nI i) else k2 (nI (i + 1)) := by
    intro k2 i hi d
    have sl := sV_lt hX (hsv i hi)
    induction d with
    | zero =>
      intro k n hk hn2 heq
      obtain ⟨n, rfl⟩ : ∃ m, n = m + 1 := ⟨n - 1, by omega⟩
      have hk : k = 14 := by omega
      subst hk
      rw [u_X7_find_L14, if_pos (show (14 : Int32) ≤ nI 14 by decide)]
      unfold m_X7_find_J56
      rw [if_neg (show ¬ (1 : Int32) = 0 by decide), if_pos (eq14_iff.mpr heq)]
    | succ d ih =>
      intro k n hk hn2 heq
      obtain ⟨n, rfl⟩ : ∃ m, n = m + 1 := ⟨n - 1, by omega⟩
      rw [u_X7_find_L14, if_neg (show ¬ (14 : Int32) ≤ nI k from nI_ge (b := 14) (by omega) (by omega)), if_neg (show ¬ (1 : Int32) = 0 by decide)]
      rw [show (14 : Int32) * nI i = nI (14 * i) from pk_mul 14 i, nI_add, pn_ck (by omega) (by omega), pn_ck (by omega) (by omega), nI_clamp (by omega), nI_clamp (by omega), hd.1 i hi k (by omega), hn k (by omega)]
      unfold m_X7_find_J49
      by_cases hh : D.2.1 i k = t k
      · rw [if_pos (by rw [hh]), nI_1]
        refine ih (k + 1) n (by omega) (by omega) (fun j hj => ?_)
        by_cases hjk : j = k
        · rw [hjk]; exact hh
        · exact heq j (by omega)
      · rw [if_neg (fun h => hh ((nI_eq (sl k (by omega)) (tl k (by omega))).mp h)), nI_1]
        obtain ⟨n, rfl⟩ : ∃ m, n = m + 1 := ⟨n - 1, by omega⟩
        have hne : ¬ eq14 (D.2.1 i) t = true := fun h => hh (eq14_iff.mp h k (by omega))
        rw [if_neg hne, u_X7_find_L14]
        unfold m_X7_find_J56
        rw [if_pos (show (0 : Int32) = 0 from rfl), if_pos (show (0 : Int32) = 0 from rfl), nI_1]
        split <;> rfl
  have all : ∀ (d i n : Nat), i + d = D.1 → d < n → m_X7_find_L2 F zQ now st n (nI i) = some (if nby (fun i => eq14 (D.2.1 i) t) d i < D.1 then nI (nby (fun i => eq14 (D.2.1 i) t) d i) else -1) := by
    intro d
    induction d with
    | zero =>
      intro i n hi hn2
      obtain ⟨n, rfl⟩ : ∃ m, n = m + 1 := ⟨n - 1, by omega⟩
      rw [u_X7_find_L2, hfdz, if_pos (nI_le (by omega) (by omega))]
      show _ = some (if i < D.1 then _ else _)
      rw [if_neg (by omega)]
    | succ d ih =>
      intro i n hi hn2
      obtain ⟨n, rfl⟩ : ∃ m, n = m + 1 := ⟨n - 1, by omega⟩
      rw [u_X7_find_L2, hfdz, if_neg (nI_ge (by omega) (by omega))]
      show m_X7_find_L14 F zQ now st (m_X7_find_L2 F zQ now st n) F (nI i) 1 (nI 0) = _
      rw [one _ i (by omega) 14 0 F (by omega) (by omega) (fun j hj => by omega)]
      simp only [nby]
      by_cases hc : eq14 (D.2.1 i) t = true
      · simp only [hc, if_true]
        rw [if_pos (show i < D.1 by omega)]
      · simp only [hc, if_false]
        exact ih (i + 1) n (by omega) (by omega)
  unfold m_X7_find
  exact all D.1 0 F (by omega) (by omega)
theorem pq_add {F : Nat} (hF : 2000 ≤ F) (q1 q2 q3 q4 q5 q6 q7 q9 q10 q11 p e : Int32) (now st cf cb : Nat → Int32) {fd : Nat} (hfd : fd < 400) : ∃ st', m_X7_add F p e (q1, q2, q3, q4, q5, q6, q7, nI fd, q9, q10, q11) now st cf cb = some ((q1, q2, q3, q4, q5, q6, q7, nI (fd + 1), q9, q10, q11), st', upd cf fd p, upd cb fd e) ∧ (∀ k, k < 14 → st' (14 * fd + k) = now k) ∧ ∀ j, j < 14 * fd → st' j = st j := by
  unfold m_X7_add
  obtain ⟨n1, a1, e1, h1, h2⟩ := lpA (L := fun n k a => m_X7_add_L2 F now n p e (nI k) (q1, q2, q3, q4, q5, q6, q7, nI fd, q9, q10, q11) a cf cb) (N := 14) (Inv := fun k a => (∀ i, i < k → a (14 * fd + i) = now i) ∧ ∀ j, j < 14 * fd → a j = st j) (by
    intro n k a hk hi
    refine ⟨upd a (14 * fd + k) (now k), ?_, fun i h => ?_, fun j hj => ?_⟩
    · show m_X7_add_L2 F now (n + 1) p e (nI k) _ a cf cb = m_X7_add_L2 F now n p e (nI (k + 1)) _ (upd a (14 * fd + k) (now k)) cf cb
      rw [u_X7_add_L2, if_neg (show ¬ (14 : Int32) ≤ nI k from nI_ge (b := 14) hk (by omega)), pn_ck hk (by omega)]
      rw [show (14 : Int32) * nI fd = nI (14 * fd) from pk_mul 14 fd, nI_add, pn_ck (by omega) (by omega), nI_clamp (by omega), nI_clamp (by omega), nI_1]
    · by_cases hh : i = k
      · rw [hh, upd_same]
      · rw [upd_ne (by omega)]; exact hi.1 i (by omega)
    · rw [upd_ne (by omega)]; exact hi.2 j hj) 14 F 0 st (by omega) (by omega) ⟨fun i h => by omega, fun j _ => rfl⟩
  refine ⟨a1, ?_, h1, h2⟩
  have e1 : m_X7_add_L2 F now F p e 0 (q1, q2, q3, q4, q5, q6, q7, nI fd, q9, q10, q11) st cf cb = m_X7_add_L2 F now (n1 + 1) p e (nI 14) (q1, q2, q3, q4, q5, q6, q7, nI fd, q9, q10, q11) a1 cf cb := e1
  rw [e1, u_X7_add_L2, if_pos (show (14 : Int32) ≤ nI 14 by decide), pn_ck (by omega) (by omega), pn_ck (by omega) (by omega), nI_clamp (by omega), nI_1]
theorem pq_load {F : Nat} (hF : 2000 ≤ F) (zQ : Int32 × Int32 × Int32 × Int32 × Int32 × Int32 × Int32 × Int32 × Int32 × Int32 × Int32) (now st : Nat → Int32) {s : Nat} (hs : s < 400) : ∃ now', m_X7_load F (nI s) zQ now st = some now' ∧ ∀ k, k < 14 → now' k = st (14 * s + k) := by
  unfold m_X7_load
  obtain ⟨n1, a1, e1, h1⟩ := lpA (L := fun n k a => m_X7_load_L2 F zQ st n (nI s) (nI k) a) (N := 14) (Inv := fun k a => ∀ i, i < k → a i = st (14 * s + i)) (by
    intro n k a hk hi
    refine ⟨upd a k (st (14 * s + k)), ?_, fun i h => ?_⟩
    · show m_X7_load_L2 F zQ st (n + 1) (nI s) (nI k) a = m_X7_load_L2 F zQ st n (nI s) (nI (k + 1)) (upd a k (st (14 * s + k)))
      rw [u_X7_load_L2, if_neg (show ¬ (14 : Int32) ≤ nI k from nI_ge (b := 14) hk (by omega))]
      rw [show (14 : Int32) * nI s = nI (14 * s) from pk_mul 14 s, nI_add, pn_ck (by omega) (by omega), pn_ck hk (by omega), nI_clamp (by omega), nI_clamp (by omega), nI_1]
    · by_cases hh : i = k
      · rw [hh, upd_same]
      · rw [upd_ne hh]; exact hi i (by omega)) 14 F 0 now (by omega) (by omega) (fun i h => by omega)
  refine ⟨a1, ?_, h1⟩
  have e1 : m_X7_load_L2 F zQ st F (nI s) 0 now = m_X7_load_L2 F zQ st (n1 + 1) (nI s) (nI 14) a1 := e1
  rw [e1, u_X7_load_L2, if_pos (show (14 : Int32) ≤ nI 14 by decide)]
theorem pq_tell {F : Nat} (hF : 2000 ≤ F) {cf cb : Nat → Int32} {par evt : Nat → Nat} {fd : Nat} (hfd : fd ≤ 400) (hp : ∀ i, 1 ≤ i → i < fd → par i < i) (hcf : ∀ i, i < fd → cf i = nI (par i) ∧ cb i = nI (evt i)) (q1 q2 q3 q4 q5 q6 q7 q8 q9 q10 q11 e : Int32) (re : Nat → Int32) {s : Nat} (hs : s < fd) :
    ∃ re', m_X7_tellRow F (nI s) e (q1, q2, q3, q4, q5, q6, q7, q8, q9, q10, q11) cf cb re = some ((q1, q2, q3, q4, q5, q6, q7, q8, q9, nI (dep par 400 s + 1), q11), re') ∧ re' (dep par 400 s) = e ∧ ∀ j, j < dep par 400 s → re' (dep par 400 s - 1 - j) = nI (evt (anc par s j)) := by
  have hdl := dep_le hp hfd s hs
  have cnt : ∀ (t : Nat), t < fd → ∀ (n k : Nat), t < n → k + t < 800 → m_X7_tellRow_L7 F cf cb n (nI s) e (nI t) (q1, q2, q3, q4, q5, q6, q7, q8, q9, nI k, q11) re = m_X7_tellRow_L7 F cf cb 1 (nI s) e (nI 0) (q1, q2, q3, q4, q5, q6, q7, q8, q9, nI (k + dep par 400 t), q11) re := by
    intro t
    induction t using Nat.strongRecOn with
    | ind t ih =>
      intro ht n k hn hk
      obtain ⟨n, rfl⟩ : ∃ m, n = m + 1 := ⟨n - 1, by omega⟩
      by_cases h0 : t = 0
      · subst h0
        rw [dep_zero, Nat.add_zero, u_X7_tellRow_L7, show (1 : Nat) = 0 + 1 from rfl, u_X7_tellRow_L7, if_pos (show nI 0 ≤ 0 by decide), if_pos (show nI 0 ≤ 0 by decide)]; rfl
      · have h1 := hp t (by omega) ht
        rw [u_X7_tellRow_L7, if_neg (nI_nle (by omega) (by omega)), pn_ck (by omega) (by omega), nI_clamp (by omega), (hcf t ht).1]
        show m_X7_tellRow_L7 F cf cb n (nI s) e (nI (par t)) (q1, q2, q3, q4, q5, q6, q7, q8, q9, nI k + 1, q11) re = _
        rw [nI_1, ih (par t) h1 (by omega) n (k + 1) (by omega) (by omega), show k + dep par 400 t = k + 1 + dep par 400 (par t) by rw [dep_step hp hfd (by omega) ht]; omega]
  have put : ∀ (t : Nat), t < fd → ∀ (n : Nat) (zq : Int32 × Int32 × Int32 × Int32 × Int32 × Int32 × Int32 × Int32 × Int32 × Int32 × Int32) (re : Nat → Int32), t < n → ∃ re', m_X7_tellRow_L53 F cf cb n (nI (dep par 400 t) - 1) (nI t) zq re = some (zq, re') ∧ (∀ i, dep par 400 t ≤ i → re' i = re i) ∧ ∀ j, j < dep par 400 t → re' (dep par 400 t - 1 - j) = nI (evt (anc par t j)) := by
    intro t
    induction t using Nat.strongRecOn with
    | ind t ih =>
      intro ht n zq re hn
      obtain ⟨n, rfl⟩ : ∃ m, n = m + 1 := ⟨n - 1, by omega⟩
      by_cases h0 : t = 0
      · subst h0
        refine ⟨re, ?_, fun i _ => rfl, fun j hj => by rw [dep_zero] at hj; omega⟩
        rw [u_X7_tellRow_L53, if_pos (show nI 0 ≤ 0 by decide)]
      · have h1 := hp t (by omega) ht
        have hd := dep_step hp hfd (by omega) ht
        have hdt := dep_le hp hfd t ht
        obtain ⟨re', a1, a2, a3⟩ := ih (par t) h1 (by omega) n zq (upd re (dep par 400 (par t)) (nI (evt t))) (by omega)
        refine ⟨re', ?_, fun i hi => ?_, fun j hj => ?_⟩
        · rw [hd, show nI (dep par 400 (par t) + 1) - 1 = nI (dep par 400 (par t)) from nI_pred _, u_X7_tellRow_L53, if_neg (nI_nle (by omega) (by omega)), pn_ck (by omega) (by omega), pn_ck (by omega) (by omega), pn_ck (by omega) (by omega), nI_clamp (by omega), nI_clamp (by omega), (hcf t ht).1, (hcf t ht).2]
          rw [show nI (dep par 400 (par t)) + (-1) = nI (dep par 400 (par t)) - 1 from (Int32.sub_eq_add_neg ..).symm]
          exact a1
        · rw [a2 i (by omega), upd_ne (by omega)]
        · cases j with
          | zero =>
            rw [hd, show dep par 400 (par t) + 1 - 1 - 0 = dep par 400 (par t) by omega, a2 _ (Nat.le_refl _), upd_same]; rfl
          | succ j =>
            rw [hd] at hj ⊢
            rw [show dep par 400 (par t) + 1 - 1 - (j + 1) = dep par 400 (par t) - 1 - j by omega, a3 j (by omega), anc_par]
  unfold m_X7_tellRow
  show ∃ re', m_X7_tellRow_L7 F cf cb F (nI s) e (nI s) (q1, q2, q3, q4, q5, q6, q7, q8, q9, nI 1, q11) re = _ ∧ _
  rw [cnt s hs F 1 (by omega) (by omega), show (1 : Nat) = 0 + 1 from rfl, u_X7_tellRow_L7, if_pos (show nI 0 ≤ 0 by decide)]
  rw [show 0 + 1 + dep par 400 s = dep par 400 s + 1 by omega]
  show ∃ re', gk_ck (nI (dep par 400 s + 1) - 1) 402 (m_X7_tellRow_L53 F cf cb F (nI (dep par 400 s + 1) - 2) (nI s) (q1, q2, q3, q4, q5, q6, q7, q8, q9, nI (dep par 400 s + 1), q11) (upd re (nI (dep par 400 s + 1) - 1).toNatClampNeg e)) = _ ∧ _
  rw [show nI (dep par 400 s + 1) - 1 = nI (dep par 400 s) from nI_pred _, pn_ck (by omega) (by omega), nI_clamp (by omega)]
  have e2 : nI (dep par 400 s + 1) - 2 = nI (dep par 400 s) - 1 := by
    rw [← nI_1, Int32.sub_eq_add_neg, Int32.add_assoc, show (1 : Int32) + -2 = -1 by decide, ← Int32.sub_eq_add_neg]
  rw [e2]
  obtain ⟨re', a1, a2, a3⟩ := put s hs F (q1, q2, q3, q4, q5, q6, q7, q8, q9, nI (dep par 400 s + 1), q11) (upd re (dep par 400 s) e) (by omega)
  exact ⟨re', a1, by rw [a2 _ (Nat.le_refl _), upd_same], a3⟩
