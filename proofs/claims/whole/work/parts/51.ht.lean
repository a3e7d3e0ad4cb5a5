/-! the class's table of states -/
def hN (k : Nat) : Nat := (lN k * (-7046029254386353131)).toBitVec.toNat / 2 ^ 54
theorem hN_lt (k : Nat) : hN k < 1024 := by
  unfold hN
  have := (lN k * (-7046029254386353131)).toBitVec.isLt
  omega
theorem lN_self (x : Int64) : x = lN x.toBitVec.toNat := wb_inj (by rw [wb_tb]; simp)
theorem hN_eq (k : Nat) : ((((lN k * ((-7046029254386353131))).toUInt64 >>> ((54 : Int32).toInt64.toUInt64 &&& Int64.toUInt64 63)).toInt64).toInt32) = nI (hN k) := by
  have h : ((lN k * ((-7046029254386353131))).toUInt64 >>> ((54 : Int32).toInt64.toUInt64 &&& Int64.toUInt64 63)).toInt64 = lN (hN k) := by
    have e := lN_self (lN k * (-7046029254386353131))
    rw [e]
    have := wb_shr (k := 54) (lN k * (-7046029254386353131)).toBitVec.isLt (by omega)
    rw [← e]
    rw [← e] at this
    exact this
  rw [h, lN_i]
theorem lN_inj {a b : Nat} (ha : a < 2 ^ 64) (hb : b < 2 ^ 64) (h : lN a = lN b) : a = b := by
  rw [← wb_tn ha, ← wb_tn hb, h]
theorem pn_cmp {a b : Nat} (ha : a < 2 ^ 64) (hb : b < 2 ^ 64) : (lg_cmp (lN a) (lN b) = 0) = (a = b) := by
  rw [propext (lg_cmp_eq _ _)]
  exact propext ⟨lN_inj ha hb, fun h => by rw [h]⟩
def ncnt (v : Nat → Nat) : Nat → Nat
  | 0 => 0
  | n + 1 => ncnt v n + (if v n = 0 then 0 else 1)
theorem ncnt_all {v : Nat → Nat} : ∀ {n : Nat}, (∀ j, j < n → v j ≠ 0) → ncnt v n = n := by
  intro n
  induction n with
  | zero => intro _; rfl
  | succ n ih => intro h; simp only [ncnt, ih (fun j hj => h j (by omega)), h n (by omega), if_false]
theorem ncnt_upd {v : Nat → Nat} (j x : Nat) : ∀ {n : Nat}, ncnt (sU v j x) n ≤ ncnt v n + (if j < n then 1 else 0) := by
  intro n
  induction n with
  | zero => exact Nat.zero_le _
  | succ n ih =>
    simp only [ncnt]
    unfold sU at *
    by_cases h : n = j
    · subst h
      rw [if_neg (by omega)] at ih
      simp only [if_true, show n < n + 1 by omega]
      split <;> split <;> omega
    · simp only [h, if_false]
      by_cases h2 : j < n
      · rw [if_pos h2] at ih; rw [if_pos (show j < n + 1 by omega)]; split <;> omega
      · rw [if_neg h2] at ih; rw [if_neg (show ¬ j < n + 1 by omega)]; split <;> omega
theorem ncnt_zero : ∀ n, ncnt (fun _ => 0) n = 0 := by
  intro n
  induction n with
  | zero => rfl
  | succ n ih => simp only [ncnt, ih, if_true]
/-- the table holds the numbers K of the fd states -/
def HT (K : Nat → Nat) (fd : Nat) (v : Nat → Nat) : Prop := (∀ j, j < 1024 → v j ≤ fd) ∧ (∀ i, i < fd → ∃ d, d < 1024 ∧ v ((hN (K i) + d) % 1024) = i + 1 ∧ ∀ d', d' < d → v ((hN (K i) + d') % 1024) ≠ 0) ∧ ncnt v 1024 ≤ fd
theorem HT_0 (K : Nat → Nat) : HT K 0 (fun _ => 0) := ⟨fun _ _ => Nat.le_refl _, fun i hi => by omega, by rw [ncnt_zero]; exact Nat.le_refl _⟩
theorem pc_slot {F : Nat} (hF : 2000 ≤ F) {zP : Int32 × Int32 × Int32 × Int32 × Int32 × Int64} {ks : Nat → Int64} {sl : Nat → Int32} {K v : Nat → Nat} {fd k : Nat} (hfd : fd ≤ 400) (hK : ∀ i, i < fd → ks i = lN (K i) ∧ K i < 2 ^ 64) (hv : ∀ j, j < 1024 → sl j = nI (v j)) (hT : HT K fd v) (hk : k < 2 ^ 64) :
    ∃ j, j < 1024 ∧ m_X4_slotOf F (lN k) zP ks sl = some (nI j) ∧ ((∃ i, i < fd ∧ K i = k ∧ v j = i + 1) ∨ ((∀ i, i < fd → K i ≠ k) ∧ v j = 0 ∧ ∃ d, d < 1024 ∧ j = (hN k + d) % 1024 ∧ ∀ d', d' < d → v ((hN k + d') % 1024) ≠ 0)) := by
  have hh := hN_lt k
  unfold m_X4_slotOf
  rw [hN_eq]
  have hR := lpB (L := fun n d a => m_X4_slotOf_L13 F zP ks sl n (lN k) a (nI d)) (N := 1024)
    (Inv := fun d a => a = nI ((hN k + d) % 1024) ∧ ∀ d', d' < d → v ((hN k + d') % 1024) ≠ 0 ∧ K (v ((hN k + d') % 1024) - 1) ≠ k)
    (Out := fun r => ∃ j, j < 1024 ∧ r = some (nI j) ∧ ((∃ i, i < fd ∧ K i = k ∧ v j = i + 1) ∨ ((∀ i, i < fd → K i ≠ k) ∧ v j = 0 ∧ ∃ d, d < 1024 ∧ j = (hN k + d) % 1024 ∧ ∀ d', d' < d → v ((hN k + d') % 1024) ≠ 0))) (by
    intro n d a hd hi
    obtain ⟨rfl, hi⟩ := hi
    show (∃ a', m_X4_slotOf_L13 F zP ks sl (n + 1) (lN k) (nI ((hN k + d) % 1024)) (nI d) = m_X4_slotOf_L13 F zP ks sl n (lN k) a' (nI (d + 1)) ∧ _) ∨ (∃ j, j < 1024 ∧ m_X4_slotOf_L13 F zP ks sl (n + 1) (lN k) (nI ((hN k + d) % 1024)) (nI d) = some (nI j) ∧ _)
    have hj : (hN k + d) % 1024 < 1024 := Nat.mod_lt _ (by omega)
    have hvj := hv _ hj
    have hvl := hT.1 _ hj
    rw [u_X4_slotOf_L13, if_neg (show ¬ (1024 : Int32) ≤ nI d from nI_ge (b := 1024) hd (by omega)), pn_ck hj (by omega), nI_clamp (by omega), hvj]
    rcases Nat.eq_zero_or_pos (v ((hN k + d) % 1024)) with h0 | h0
    · right
      refine ⟨_, hj, ?_, Or.inr ⟨fun i hi2 hik => ?_, h0, d, hd, rfl, fun d' hd' => (hi d' hd').1⟩⟩
      · rw [h0, if_pos (show nI 0 - 1 < 0 by decide)]
      · obtain ⟨d0, h1, h2, h3⟩ := hT.2.1 i hi2
        rw [hik] at h2 h3
        rcases Nat.lt_trichotomy d0 d with h4 | h4 | h4
        · have h5 := (hi d0 h4).2
          rw [h2, Nat.add_sub_cancel] at h5
          exact h5 hik
        · subst h4; omega
        · exact h3 d h4 h0
    · obtain ⟨m, hm⟩ : ∃ m, v ((hN k + d) % 1024) = m + 1 := ⟨v ((hN k + d) % 1024) - 1, by omega⟩
      rw [hm, show nI (m + 1) - 1 = nI m from nI_pred m, if_neg (nI_pos (by omega)), pn_ck (by omega) (by omega), nI_clamp (by omega), (hK m (by omega)).1]
      by_cases hmk : K m = k
      · right
        refine ⟨_, hj, ?_, Or.inl ⟨m, by omega, hmk, hm⟩⟩
        rw [hmk, if_pos (by rw [pn_cmp hk hk])]
      · left
        refine ⟨_, ?_, rfl, fun d' hd' => ?_⟩
        · rw [if_neg (by rw [pn_cmp (hK m (by omega)).2 hk]; exact hmk), nI_1, nI_1]
          rw [show nI ((hN k + d) % 1024 + 1) &&& 1023 = nI (((hN k + d) % 1024 + 1) &&& 1023) from nx_and _ 1023, show ((hN k + d) % 1024 + 1) &&& 1023 = ((hN k + d) % 1024 + 1) % 1024 from Nat.and_two_pow_sub_one_eq_mod _ 10, show ((hN k + d) % 1024 + 1) % 1024 = (hN k + (d + 1)) % 1024 by omega]
        · by_cases h : d' = d
          · subst h; exact ⟨by omega, by rw [hm, Nat.add_sub_cancel]; exact hmk⟩
          · exact hi d' (by omega)) 1024 F 0 (nI (hN k)) (by omega) (by omega) ⟨by rw [Nat.add_zero, Nat.mod_eq_of_lt hh], fun d' hd' => by omega⟩
  rcases hR with ⟨n', a', e, -, hI⟩ | hR
  · exfalso
    have h1 : ncnt v 1024 = 1024 := ncnt_all (fun j hj => by
      have := (hI ((j + 1024 - hN k) % 1024) (Nat.mod_lt _ (by omega))).1
      rwa [show (hN k + (j + 1024 - hN k) % 1024) % 1024 = j by omega] at this)
    have := hT.2.2
    omega
  · exact hR
theorem pc_num {F : Nat} (hF : 2000 ≤ F) {zP : Int32 × Int32 × Int32 × Int32 × Int32 × Int64} {ks : Nat → Int64} {sl : Nat → Int32} {K v : Nat → Nat} {fd k : Nat} (hfd : fd ≤ 400) (hK : ∀ i, i < fd → ks i = lN (K i) ∧ K i < 2 ^ 64) (hv : ∀ j, j < 1024 → sl j = nI (v j)) (hT : HT K fd v) (hk : k < 2 ^ 64) :
    (∃ i, i < fd ∧ K i = k ∧ m_X4_numberOf F (lN k) zP ks sl = some (nI i)) ∨ ((∀ i, i < fd → K i ≠ k) ∧ m_X4_numberOf F (lN k) zP ks sl = some (-1)) := by
  obtain ⟨j, hj, e, h⟩ := pc_slot hF (zP := zP) hfd hK hv hT hk
  have hvl := hT.1 j hj
  unfold m_X4_numberOf
  rw [e, pn_bd, pn_ck hj (by omega), nI_clamp (by omega), hv j hj]
  rcases h with ⟨i, h1, h2, h3⟩ | ⟨h1, h2, -⟩
  · left
    refine ⟨i, h1, h2, ?_⟩
    rw [h3, if_neg (nI_nle (by omega) (by omega)), pn_ck hj (by omega), show nI (i + 1) - 1 = nI i from nI_pred i]
  · right
    refine ⟨h1, ?_⟩
    rw [h2, if_pos (show nI 0 ≤ 0 by decide)]
theorem updL_same (f : Nat → Int64) (k : Nat) (x : Int64) : vp_updL f k x k = x := if_pos rfl
theorem updL_ne {f : Nat → Int64} {j k : Nat} {x : Int64} (h : j ≠ k) : vp_updL f k x j = f j := if_neg h
theorem pc_add {F : Nat} (hF : 2000 ≤ F) {z2 z3 z4 z5 : Int32} {z6 : Int64} {ks : Nat → Int64} {pa ev sl : Nat → Int32} {K v : Nat → Nat} {fd k : Nat} (p e : Int32) (hfd : fd < 400) (hK : ∀ i, i < fd → ks i = lN (K i) ∧ K i < 2 ^ 64) (hv : ∀ j, j < 1024 → sl j = nI (v j)) (hT : HT K fd v) (hk : k < 2 ^ 64) (hno : ∀ i, i < fd → K i ≠ k) :
    ∃ sl' v', m_X4_add F (lN k) p e (nI fd, z2, z3, z4, z5, z6) ks pa ev sl = some (nI fd, ((nI (fd + 1), z2, z3, z4, z5, z6), vp_updL ks fd (lN k), upd pa fd p, upd ev fd e, sl')) ∧ (∀ j, j < 1024 → sl' j = nI (v' j)) ∧ HT (sU K fd k) (fd + 1) v' := by
  obtain ⟨j, hj, e1, h⟩ := pc_slot hF (zP := (nI (fd + 1), z2, z3, z4, z5, z6)) (ks := vp_updL ks fd (lN k)) (K := K) (Nat.le_of_lt hfd) (fun i hi => by rw [updL_ne (by omega)]; exact hK i hi) hv hT hk
  rcases h with ⟨i, h1, h2, -⟩ | ⟨-, h2, d, hd, hjd, hd2⟩
  · exact absurd h2 (hno i h1)
  · refine ⟨upd sl j (nI (fd + 1)), sU v j (fd + 1), ?_, ?_, ?_, ?_, ?_⟩
    · unfold m_X4_add
      rw [if_pos (show nI fd < 400 from nI_lt (b := 400) hfd (by omega)), pn_ck (by omega) (by omega), pn_ck (by omega) (by omega), pn_ck (by omega) (by omega), nI_clamp (by omega), nI_1, e1, pn_bd, pn_ck hj (by omega), nI_clamp (by omega)]
    · intro i hi
      unfold upd sU
      by_cases h : i = j
      · rw [if_pos h, if_pos h]
      · rw [if_neg h, if_neg h]; exact hv i hi
    · intro i hi
      unfold sU
      split
      · omega
      · have := hT.1 i hi; omega
    · intro i hi
      by_cases hif : i = fd
      · subst hif
        rw [show sU K i k i = k from if_pos rfl]
        refine ⟨d, hd, by rw [← hjd]; exact if_pos rfl, fun d' hd' => ?_⟩
        unfold sU
        split
        · omega
        · exact hd2 d' hd'
      · rw [show sU K fd k i = K i from if_neg hif]
        obtain ⟨d0, g1, g2, g3⟩ := hT.2.1 i (by omega)
        refine ⟨d0, g1, ?_, fun d' hd' => ?_⟩
        · unfold sU
          rw [if_neg (fun h => by rw [h] at g2; omega)]; exact g2
        · unfold sU
          split
          · omega
          · exact g3 d' hd'
    · have h3 := ncnt_upd (v := v) j (fd + 1) (n := 1024)
      rw [if_pos hj] at h3
      have h4 := hT.2.2
      omega
theorem pj_fill {F n : Nat} (hn : n < F) (hn2 : n < 2 ^ 31) (x : Int32) (z : Nat → Int32) : ∃ z', m_J7_fill_53178 F n x z = some z' ∧ (∀ i, i < n → z' i = x) ∧ ∀ i, n ≤ i → z' i = z i := by
  unfold m_J7_fill_53178
  obtain ⟨n', a', e, hI, hI2⟩ := lpA (L := fun m k a => m_J7_fill_53178_L5 F n m x (nI k) (nI n) a) (N := n) (Inv := fun k a => (∀ i, i < k → a i = x) ∧ ∀ i, k ≤ i → a i = z i) (by
    intro m k a hk hi
    refine ⟨upd a k x, ?_, fun i hi2 => ?_, fun i hi2 => ?_⟩
    · show m_J7_fill_53178_L5 F n (m + 1) x (nI k) (nI n) a = m_J7_fill_53178_L5 F n m x (nI (k + 1)) (nI n) (upd a k x)
      rw [u_J7_fill_53178_L5, if_neg (nI_ge hk hn2), pn_ck hk hn2, nI_1, nI_clamp (by omega)]
    · by_cases h : i = k
      · subst h; exact upd_same _ _ _
      · rw [upd_ne h]; exact hi.1 i (by omega)
    · rw [upd_ne (by omega)]; exact hi.2 i (by omega)) n F 0 z (by omega) hn ⟨fun i hi => by omega, fun i _ => rfl⟩
  refine ⟨a', ?_, hI, hI2⟩
  have e : m_J7_fill_53178_L5 F n F x 0 (Int32.ofNat n) z = m_J7_fill_53178_L5 F n (n' + 1) x (nI n) (nI n) a' := e
  rw [e, u_J7_fill_53178_L5, if_pos (nI_le (Nat.le_refl _) hn2)]
theorem pc_forget {F : Nat} (hF : 2000 ≤ F) {z2 z3 z4 z5 : Int32} {z6 : Int64} {sl : Nat → Int32} {fd : Nat} (hfd : fd ≤ 400) (h0 : fd = 0 → ∀ j, j < 1024 → sl j = nI 0) : ∃ sl', m_X4_forget F (nI fd, z2, z3, z4, z5, z6) sl = some ((nI 0, nI 3, z3, z4, z5, z6), sl') ∧ ∀ j, j < 1024 → sl' j = nI 0 := by
  unfold m_X4_forget m_X4_forget_J15
  by_cases h : fd = 0
  · refine ⟨sl, ?_, h0 h⟩
    rw [h, if_pos (show nI 0 ≤ 0 by decide)]; rfl
  · obtain ⟨z', e, h1, -⟩ := pj_fill (F := F) (n := 1024) (by omega) (by omega) 0 sl
    refine ⟨z', ?_, h1⟩
    rw [if_neg (show ¬ (nI fd, z2, z3, z4, z5, z6).1 ≤ 0 from nI_nle (by omega) (by omega)), e, pn_bd]; rfl
