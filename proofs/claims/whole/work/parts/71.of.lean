/-! the reference reads a plan's text -/
def rI (tx : Nat → Nat) (un n p : Nat) (g0 s0 l0 : Nat → Int32) (j : Nat) (gr so lo : Nat → Int32) : Prop := (∀ i, i < 5 * p → i < 15 → gr i = g0 i ∧ so i = s0 i ∧ lo i = l0 i) ∧ (p < 3 → ∀ i, i < j → gr (5 * p + i) = nI (lBt tx un n (phS tx un n i)) ∧ so (5 * p + i) = nI (phL tx un n (phS tx un n i)) ∧ lo (5 * p + i) = nI (phH tx un n (phS tx un n i)))
theorem rI_le {tx : Nat → Nat} {un n p : Nat} {g0 s0 l0 gr so lo : Nat → Int32} {j j' : Nat} (h : rI tx un n p g0 s0 l0 j gr so lo) (hj : j' ≤ j) : rI tx un n p g0 s0 l0 j' gr so lo := ⟨h.1, fun hp i hi => h.2 hp i (by omega)⟩
theorem rI_put {tx : Nat → Nat} {un n p : Nat} {g0 s0 l0 gr so lo : Nat → Int32} {j : Nat} (h : rI tx un n p g0 s0 l0 j gr so lo) : rI tx un n p g0 s0 l0 (j + 1) (upd gr (5 * p + j) (nI (lBt tx un n (phS tx un n j)))) (upd so (5 * p + j) (nI (phL tx un n (phS tx un n j)))) (upd lo (5 * p + j) (nI (phH tx un n (phS tx un n j)))) := by
  refine ⟨fun i h1 h2 => ?_, fun hp i hi => ?_⟩
  · rw [upd_ne (by omega), upd_ne (by omega), upd_ne (by omega)]; exact h.1 i h1 h2
  · by_cases hh : i = j
    · subst hh; rw [upd_same, upd_same, upd_same]; exact ⟨rfl, rfl, rfl⟩
    · rw [upd_ne (by omega), upd_ne (by omega), upd_ne (by omega)]; exact h.2 hp i (by omega)
theorem upd_back (f : Nat → Int32) (k : Nat) (x : Int32) (i : Nat) : upd (upd f k x) k (f k) i = f i := by
  by_cases h : i = k
  · rw [h, upd_same]
  · rw [upd_ne h, upd_ne h]
theorem upd_id (f : Nat → Int32) (k i : Nat) : upd f k (f k) i = f i := by
  by_cases h : i = k
  · rw [h, upd_same]
  · rw [upd_ne h]
abbrev RK := Int32 → Int32 → Int32 → Int32 → Int32 → Int32 → QT → (Nat → Int32) → (Nat → Int32) → (Nat → Int32) → (Nat → Int32) → (Nat → Int32) → (Nat → Int32) → Option (Int32 × (QT × (Nat → Int32) × (Nat → Int32) × (Nat → Int32) × (Nat → Int32) × (Nat → Int32) × (Nat → Int32)))
theorem pq_r52 {F : Nat} (hF : 2000 ≤ F) {tx : Nat → Nat} {un n p : Nat} {sg : Nat → Int32} (ht : tX tx un sg) (hn : n ≤ 6) (hp : p ≤ 3) (k : RK) (q1 q5 q6 q7 q8 q9 q10 q11 : Int32) (ph gr so lo mac now g0 s0 l0 : Nat → Int32) {j y : Nat} (hj : j < 5) (hat : phS tx un n j ≤ un) (hy : (p < 3 ∧ y = 5 * p + j) ∨ (p = 3 ∧ y = 14)) (hI : rI tx un n p g0 s0 l0 j gr so lo) :
    ∃ q11' gr' so' lo', m_X7_read_J52 F sg k (nI un) (nI j) (nI (phS tx un n j)) 0 0 (nI y) (q1, nI n, nI p, nI un, q5, q6, q7, q8, q9, q10, q11) ph gr so lo mac now = m_X7_read_J126 F sg k (nI un) (nI j) (nI (phS tx un n j)) 0 0 (if phO tx un n (phS tx un n j) then nI (phP tx un n (phS tx un n j)) else -1) (q1, nI n, nI p, nI un, q5, q6, q7, q8, q9, q10, q11') ph gr' so' lo' mac now ∧ (phO tx un n (phS tx un n j) = false → q11' = nI (phP tx un n (phS tx un n j))) ∧ rI tx un n p g0 s0 l0 (if phO tx un n (phS tx un n j) then j + 1 else j) gr' so' lo' := by
  have hy15 : y < 15 := by omega
  obtain ⟨q11', e1, e2⟩ := pq_phase hF ht hn q1 (nI p) q5 q6 q7 q8 q9 q10 q11 gr so lo hy15 hat
  unfold m_X7_read_J52
  rw [pn_ck hy15 (by omega), pn_ck hy15 (by omega), pn_ck hy15 (by omega), e1, pn_bd]
  rcases hy with ⟨h1, rfl⟩ | ⟨rfl, rfl⟩
  · rw [if_neg (show ¬ (q1, nI n, nI p, nI un, q5, q6, q7, q8, q9, q10, q11').2.2.1 = 3 from fun h => by have := (nI_eq (b := 3) (by omega) (by omega)).mp h; omega)]
    refine ⟨q11', _, _, _, rfl, e2, ?_⟩
    cases phO tx un n (phS tx un n j)
    · exact hI
    · exact rI_put hI
  · rw [if_pos (show (q1, nI n, nI 3, nI un, q5, q6, q7, q8, q9, q10, q11').2.2.1 = 3 from rfl), pn_ck hy15 (by omega), pn_ck hy15 (by omega), pn_ck hy15 (by omega), nI_clamp (by omega)]
    refine ⟨q11', _, _, _, rfl, e2, ?_, fun h => by omega⟩
    intro i h1 h2
    cases phO tx un n (phS tx un n j)
    · show upd gr 14 (gr 14) i = _ ∧ upd so 14 (so 14) i = _ ∧ upd lo 14 (lo 14) i = _
      rw [upd_id, upd_id, upd_id]; exact hI.1 i h1 h2
    · show upd (upd gr 14 _) 14 (gr 14) i = _ ∧ upd (upd so 14 _) 14 (so 14) i = _ ∧ upd (upd lo 14 _) 14 (lo 14) i = _
      rw [upd_back, upd_back, upd_back]; exact hI.1 i h1 h2
theorem pq_read {F : Nat} (hF : 2000 ≤ F) {tx : Nat → Nat} {un n p : Nat} {sg : Nat → Int32} (ht : tX tx un sg) (hn : n ≤ 6) (hp : p ≤ 3) (q1 q5 q6 q7 q8 q9 q10 : Int32) (ph mac now g0 s0 l0 : Nat → Int32) : ∀ (d j f : Nat) (x2 q11 : Int32) (gr so lo : Nat → Int32), j + d = 5 → j < 5 → d + 1 < f → (∀ i, i ≤ j → phS tx un n i ≤ un) → rI tx un n p g0 s0 l0 j gr so lo →
    ∃ f' x2' x3' x4' q11' gr' so' lo', m_X7_read_L23 F sg f (nI un) x2 (nI j) (nI (phS tx un n j)) 1 0 (q1, nI n, nI p, nI un, q5, q6, q7, q8, q9, q10, q11) ph gr so lo mac now = m_X7_read_L23 F sg (f' + 1) (nI un) x2' x3' x4' 0 (nI (b2n (paR tx un n d j (phS tx un n j)).1)) (q1, nI n, nI p, nI un, q5, q6, q7, q8, q9, q10, q11') ph gr' so' lo' mac now ∧ rI tx un n p g0 s0 l0 (if (paR tx un n d j (phS tx un n j)).1 then (paR tx un n d j (phS tx un n j)).2 else 0) gr' so' lo' ∧ ((paR tx un n d j (phS tx un n j)).1 = true → x3' = nI (paR tx un n d j (phS tx un n j)).2 ∧ ∀ i, i < (paR tx un n d j (phS tx un n j)).2 → phS tx un n i ≤ un) ∧ ((paR tx un n d j (phS tx un n j)).1 = false → x2' = nI (paR tx un n d j (phS tx un n j)).2) := by
  have hun := ht.1
  intro d
  induction d with
  | zero => intro j f x2 q11 gr so lo h1 h2; omega
  | succ d ih =>
    intro j f x2 q11 gr so lo hj hj5 hf hS hI
    obtain ⟨f, rfl⟩ : ∃ m, f = m + 1 := ⟨f - 1, by omega⟩
    obtain ⟨f2, hf2⟩ : ∃ m, f = m + 1 := ⟨f - 1, by omega⟩
    have hat := hS j (Nat.le_refl _)
    have hpl := phP_le (tx := tx) (n := n) hn hat
    have hstart : ∃ y, ((p < 3 ∧ y = 5 * p + j) ∨ (p = 3 ∧ y = 14)) ∧ m_X7_read_L23 F sg (f + 1) (nI un) x2 (nI j) (nI (phS tx un n j)) 1 0 (q1, nI n, nI p, nI un, q5, q6, q7, q8, q9, q10, q11) ph gr so lo mac now = m_X7_read_J52 F sg (m_X7_read_L23 F sg f) (nI un) (nI j) (nI (phS tx un n j)) 0 0 (nI y) (q1, nI n, nI p, nI un, q5, q6, q7, q8, q9, q10, q11) ph gr so lo mac now := by
      rw [u_X7_read_L23, if_neg (show ¬ (1 : Int32) = 0 by decide)]
      by_cases h3 : p = 3
      · rw [if_pos (show (3 : Int32) ≤ (q1, nI n, nI p, nI un, q5, q6, q7, q8, q9, q10, q11).2.2.1 from nI_le (a := 3) (by omega) (by omega))]
        exact ⟨14, Or.inr ⟨h3, rfl⟩, rfl⟩
      · rw [if_neg (show ¬ (3 : Int32) ≤ (q1, nI n, nI p, nI un, q5, q6, q7, q8, q9, q10, q11).2.2.1 from nI_ge (b := 3) (by omega) (by omega))]
        refine ⟨5 * p + j, Or.inl ⟨by omega, rfl⟩, ?_⟩
        rw [show (5 : Int32) * (q1, nI n, nI p, nI un, q5, q6, q7, q8, q9, q10, q11).2.2.1 + nI j = nI (5 * p + j) by show (5 : Int32) * nI p + nI j = _; rw [pl_5, pk_mul, nI_add]]
    obtain ⟨y, hy, e0⟩ := hstart
    obtain ⟨q11', gr', so', lo', e1, e2, e3⟩ := pq_r52 hF ht hn hp (m_X7_read_L23 F sg f) q1 q5 q6 q7 q8 q9 q10 q11 ph gr so lo mac now g0 s0 l0 hj5 hat hy hI
    rw [e0, e1]
    have hR : paR tx un n (d + 1) j (phS tx un n j) = if phO tx un n (phS tx un n j) then (if phP tx un n (phS tx un n j) = un then (true, j + 1) else if sgn tx un (phP tx un n (phS tx un n j)) 59 = true ∧ j + 1 < 5 then paR tx un n d (j + 1) (phP tx un n (phS tx un n j) + 1) else (false, phP tx un n (phS tx un n j))) else (false, phP tx un n (phS tx un n j)) := rfl
    rw [hR]
    unfold m_X7_read_J126
    cases hO : phO tx un n (phS tx un n j)
    · rw [hO] at e3
      rw [if_neg (show ¬ false = true by decide), if_neg (show ¬ false = true by decide), if_neg (show ¬ (0 : Int32) ≤ -1 by decide)]
      unfold m_X7_read_J192
      rw [hf2]
      exact ⟨f2, _, _, _, q11', gr', so', lo', rfl, rI_le e3 (Nat.zero_le _), fun h => Bool.noConfusion (show false = true from h), fun _ => e2 hO⟩
    · rw [hO, if_pos rfl] at e3
      rw [if_pos (show true = true from rfl), if_pos (show true = true from rfl), if_pos (show (0 : Int32) ≤ nI (phP tx un n (phS tx un n j)) from nI_pos' (by omega))]
      by_cases hE : phP tx un n (phS tx un n j) = un
      · rw [if_pos (show nI (phP tx un n (phS tx un n j)) = nI un by rw [hE]), if_pos hE]
        unfold m_X7_read_J156
        rw [if_neg (show ¬ (1 : Int32) = 0 by decide)]
        unfold m_X7_read_J183 m_X7_read_J184 m_X7_read_J192
        rw [hf2]
        exact ⟨f2, _, _, _, q11', gr', so', lo', rfl, e3, fun _ => ⟨nI_1 j, fun i hi => hS i (Nat.lt_succ_iff.mp hi)⟩, fun h => Bool.noConfusion (show true = false from h)⟩
      · rw [if_neg (show ¬ nI (phP tx un n (phS tx un n j)) = nI un from fun h => hE ((nI_eq (by omega) (by omega)).mp h)), if_neg hE]
        unfold m_X7_read_J156
        rw [if_pos (show (0 : Int32) = 0 from rfl), pq_sign ht rfl (by omega), pn_bd, if_pos (show phP tx un n (phS tx un n j) < un by omega), nI_1]
        have hcat := (ht.2 (phP tx un n (phS tx un n j)) (by omega)).2.2
        by_cases hc : sgn tx un (phP tx un n (phS tx un n j)) 59 = true
        · have h59 : tx (phP tx un n (phS tx un n j)) = 59 := by
            unfold sgn at hc
            rw [Bool.and_eq_true] at hc
            exact eq_of_beq hc.2
          rw [if_pos (show nI (tx (phP tx un n (phS tx un n j))) = 59 by rw [h59]; rfl)]
          by_cases h5 : j + 1 < 5
          · rw [if_neg (show ¬ (5 : Int32) ≤ nI (j + 1) from nI_ge (b := 5) h5 (by omega)), if_pos ⟨hc, h5⟩]
            unfold m_X7_read_J184 m_X7_read_J192
            rw [nI_1]
            exact ih (j + 1) f _ q11' gr' so' lo' (by omega) h5 (by omega) (fun i hi => by
              rcases Nat.lt_or_ge i (j + 1) with h | h
              · exact hS i (by omega)
              · obtain rfl : i = j + 1 := by omega
                show phP tx un n (phS tx un n j) + 1 ≤ un
                omega) e3
          · rw [if_pos (show (5 : Int32) ≤ nI (j + 1) from nI_le (a := 5) (by omega) (by omega)), if_neg (fun h => h5 h.2)]
            unfold m_X7_read_J183 m_X7_read_J184 m_X7_read_J192
            rw [hf2]
            exact ⟨f2, _, _, _, q11', gr', so', lo', rfl, rI_le e3 (Nat.zero_le _), fun h => Bool.noConfusion (show false = true from h), fun _ => rfl⟩
        · have h59 : ¬ tx (phP tx un n (phS tx un n j)) = 59 := fun h => hc (by
            unfold sgn
            rw [h, Bool.and_eq_true]
            exact ⟨decide_eq_true (by omega), rfl⟩)
          rw [if_neg (show ¬ nI (tx (phP tx un n (phS tx un n j))) = 59 from fun h => h59 ((nI_eq (b := 59) (by omega) (by omega)).mp h)), if_neg (fun h => hc h.1)]
          unfold m_X7_read_J183 m_X7_read_J184 m_X7_read_J192
          rw [hf2]
          exact ⟨f2, _, _, _, q11', gr', so', lo', rfl, rI_le e3 (Nat.zero_le _), fun h => Bool.noConfusion (show false = true from h), fun _ => rfl⟩
theorem pc_addp {F : Nat} (hF : 2000 ≤ F) {n p c : Nat} (hn : n ≤ 6) (hp : p < 3) (hc : c ≤ 5) (ph me sh lo : Nat → Int32) (zT : Int32 × Int32) (tm ts tl : Nat → Int32) : ∃ me' sh' lo', m_X0_addPlan F (nI c) (nI n, nI p) ph me sh lo zT tm ts tl = some (1, ((nI n, nI (p + 1)), upd ph p (nI c), me', sh', lo')) ∧ (∀ i, i < 5 * p → me' i = me i ∧ sh' i = sh i ∧ lo' i = lo i) ∧ ∀ i, i < c → me' (5 * p + i) = tm i ∧ sh' (5 * p + i) = ts i ∧ lo' (5 * p + i) = tl i := by
  unfold m_X0_addPlan
  rw [if_pos (show (nI n, nI p).2 < 3 from nI_lt (b := 3) hp (by omega))]
  obtain ⟨n2, ⟨me2, sh2, lo2⟩, e2, i1, i2⟩ := lpA (α := (Nat → Int32) × (Nat → Int32) × (Nat → Int32)) (L := fun m k a => m_X0_addPlan_L12 F zT tm ts tl m (nI c) (nI k) (nI n, nI p) ph a.1 a.2.1 a.2.2) (N := c) (Inv := fun k a => (∀ i, i < 5 * p → a.1 i = me i ∧ a.2.1 i = sh i ∧ a.2.2 i = lo i) ∧ ∀ i, i < k → a.1 (5 * p + i) = tm i ∧ a.2.1 (5 * p + i) = ts i ∧ a.2.2 (5 * p + i) = tl i) (by
    intro m k ⟨me1, sh1, lo1⟩ hk ⟨h1, h2⟩
    refine ⟨(upd me1 (5 * p + k) (tm k), upd sh1 (5 * p + k) (ts k), upd lo1 (5 * p + k) (tl k)), ?_, fun i hi => ?_, fun i hi => ?_⟩
    · show m_X0_addPlan_L12 F zT tm ts tl (m + 1) (nI c) (nI k) (nI n, nI p) ph me1 sh1 lo1 = m_X0_addPlan_L12 F zT tm ts tl m (nI c) (nI (k + 1)) (nI n, nI p) ph (upd me1 (5 * p + k) (tm k)) (upd sh1 (5 * p + k) (ts k)) (upd lo1 (5 * p + k) (tl k))
      rw [u_X0_addPlan_L12, if_neg (show ¬ nI c ≤ nI k from nI_ge hk (by omega)), if_neg (show ¬ (5 : Int32) ≤ nI k from nI_ge (b := 5) (by omega) (by omega)), show (nI n, nI p).2 * 5 + nI k = nI (5 * p + k) by show nI p * nI 5 + nI k = _; rw [pk_mul, nI_add, Nat.mul_comm]]
      rw [pn_ck (k := k) (by omega) (by omega), pn_ck (k := 5 * p + k) (by omega) (by omega), pn_ck (k := k) (by omega) (by omega), pn_ck (k := 5 * p + k) (by omega) (by omega), pn_ck (k := k) (by omega) (by omega), pn_ck (k := 5 * p + k) (by omega) (by omega), nI_clamp (by omega), nI_clamp (by omega), nI_1]
    · show upd me1 (5 * p + k) (tm k) i = _ ∧ upd sh1 (5 * p + k) (ts k) i = _ ∧ upd lo1 (5 * p + k) (tl k) i = _
      rw [upd_ne (by omega), upd_ne (by omega), upd_ne (by omega)]; exact h1 i hi
    · show upd me1 (5 * p + k) (tm k) (5 * p + i) = _ ∧ upd sh1 (5 * p + k) (ts k) (5 * p + i) = _ ∧ upd lo1 (5 * p + k) (tl k) (5 * p + i) = _
      by_cases hh : i = k
      · subst hh; rw [upd_same, upd_same, upd_same]; exact ⟨rfl, rfl, rfl⟩
      · rw [upd_ne (by omega), upd_ne (by omega), upd_ne (by omega)]; exact h2 i (by omega)) c F 0 (me, sh, lo) (by omega) (by omega) ⟨fun i hi => ⟨rfl, rfl, rfl⟩, fun i hi => by omega⟩
  refine ⟨me2, sh2, lo2, ?_, i1, i2⟩
  have e2 : m_X0_addPlan_L12 F zT tm ts tl F (nI c) 0 (nI n, nI p) ph me sh lo = m_X0_addPlan_L12 F zT tm ts tl (n2 + 1) (nI c) (nI c) (nI n, nI p) ph me2 sh2 lo2 := e2
  rw [e2, u_X0_addPlan_L12, if_pos (show nI c ≤ nI c from nI_le (Nat.le_refl _) (by omega))]
  unfold m_X0_addPlan_J77
  show gk_ck (nI p) 3 (some (1, ((nI n, nI p + 1), upd ph (nI p).toNatClampNeg (nI c), me2, sh2, lo2))) = _
  rw [pn_ck hp (by omega), nI_clamp (by omega), nI_1]
