/-! a plan's text: what it says -/
def dgt (tx : Nat → Nat) (un k : Nat) : Bool := decide (k < un) && decide (48 ≤ tx k) && decide (tx k ≤ 57)
/-- the first place from k on that is no digit, and the number till there (held down at 32) -/
def nbh (tx : Nat → Nat) (un : Nat) : Nat → Nat → Nat → Nat × Nat
  | 0, k, v => (k, v)
  | d + 1, k, v => if dgt tx un k then nbh tx un d (k + 1) (if 32 < v * 10 + tx k - 48 then 32 else v * 10 + tx k - 48) else (k, v)
def bhd (tx : Nat → Nat) (un k : Nat) : Nat := (nbh tx un (un - k) k 0).1
def nmv (tx : Nat → Nat) (un k : Nat) : Nat := (nbh tx un (un - k) k 0).2
def okN (tx : Nat → Nat) (un k lo hi : Nat) : Bool := dgt tx un k && (tx k != 48) && decide (lo ≤ nmv tx un k) && decide (nmv tx un k ≤ hi)
def ltr (tx : Nat → Nat) (un n : Nat) : Nat → Nat → Nat → Nat → Nat × Nat
  | 0, at', b, _ => (at', b)
  | d + 1, at', b, lw => if at' < un ∧ 65 + lw ≤ tx at' ∧ tx at' < 65 + n then ltr tx un n d (at' + 1) (b ||| 2 ^ (tx at' - 65)) (tx at' - 65 + 1) else (at', b)
def lAt (tx : Nat → Nat) (un n k : Nat) : Nat := (ltr tx un n (un - k) k 0 0).1
def lBt (tx : Nat → Nat) (un n k : Nat) : Nat := (ltr tx un n (un - k) k 0 0).2
def sgn (tx : Nat → Nat) (un k c : Nat) : Bool := decide (k < un) && (tx k == c)
/-- a phase: is it one; the place behind it, or the first wrong one -/
def phO (tx : Nat → Nat) (un n k : Nat) : Bool := (lBt tx un n k != 0) && okN tx un (lAt tx un n k) 1 15 && sgn tx un (bhd tx un (lAt tx un n k)) 45 && okN tx un (bhd tx un (lAt tx un n k) + 1) (nmv tx un (lAt tx un n k)) 31
def phP (tx : Nat → Nat) (un n k : Nat) : Nat := if ((lBt tx un n k != 0) && okN tx un (lAt tx un n k) 1 15) = true then (if sgn tx un (bhd tx un (lAt tx un n k)) 45 = true then (if okN tx un (bhd tx un (lAt tx un n k) + 1) (nmv tx un (lAt tx un n k)) 31 = true then bhd tx un (bhd tx un (lAt tx un n k) + 1) else bhd tx un (lAt tx un n k) + 1) else bhd tx un (lAt tx un n k)) else lAt tx un n k
def phL (tx : Nat → Nat) (un n k : Nat) : Nat := nmv tx un (lAt tx un n k)
def phH (tx : Nat → Nat) (un n k : Nat) : Nat := nmv tx un (bhd tx un (lAt tx un n k) + 1)
/-- the whole text: (true, phases) or (false, the first wrong place) -/
def paR (tx : Nat → Nat) (un n : Nat) : Nat → Nat → Nat → Bool × Nat
  | 0, _, at' => (false, at')
  | d + 1, k, at' => if phO tx un n at' then (if phP tx un n at' = un then (true, k + 1) else if sgn tx un (phP tx un n at') 59 = true ∧ k + 1 < 5 then paR tx un n d (k + 1) (phP tx un n at' + 1) else (false, phP tx un n at')) else (false, phP tx un n at')
/-- where the k-th phase begins -/
def phS (tx : Nat → Nat) (un n : Nat) : Nat → Nat
  | 0 => 0
  | k + 1 => phP tx un n (phS tx un n k) + 1
theorem nbh_b (tx : Nat → Nat) (un : Nat) : ∀ (d k v : Nat), k + d ≤ un → v ≤ 32 → k ≤ (nbh tx un d k v).1 ∧ (nbh tx un d k v).1 ≤ k + d ∧ (nbh tx un d k v).2 ≤ 32 := by
  intro d
  induction d with
  | zero => intro k v h hv; exact ⟨Nat.le_refl _, Nat.le_refl _, hv⟩
  | succ d ih =>
    intro k v h hv
    unfold nbh
    split
    · have := ih (k + 1) (if 32 < v * 10 + tx k - 48 then 32 else v * 10 + tx k - 48) (by omega) (by split <;> omega)
      omega
    · exact ⟨Nat.le_refl _, by omega, hv⟩
theorem bhd_le {tx : Nat → Nat} {un k : Nat} (h : k ≤ un) : k ≤ bhd tx un k ∧ bhd tx un k ≤ un := by
  have := nbh_b tx un (un - k) k 0 (by omega) (by omega)
  unfold bhd; omega
theorem nmv_le {tx : Nat → Nat} {un k : Nat} (h : k ≤ un) : nmv tx un k ≤ 32 := (nbh_b tx un (un - k) k 0 (by omega) (by omega)).2.2
theorem ltr_b (tx : Nat → Nat) (un n : Nat) (hn : n ≤ 6) : ∀ (d k b lw : Nat), k + d ≤ un → b < 2 ^ n → k ≤ (ltr tx un n d k b lw).1 ∧ (ltr tx un n d k b lw).1 ≤ k + d ∧ (ltr tx un n d k b lw).2 < 2 ^ n := by
  intro d
  induction d with
  | zero => intro k b lw h hb; exact ⟨Nat.le_refl _, Nat.le_refl _, hb⟩
  | succ d ih =>
    intro k b lw h hb
    unfold ltr
    split
    · rename_i hc
      have := ih (k + 1) (b ||| 2 ^ (tx k - 65)) (tx k - 65 + 1) (by omega) (Nat.or_lt_two_pow hb (Nat.pow_lt_pow_right (by decide) (by omega)))
      omega
    · exact ⟨Nat.le_refl _, by omega, hb⟩
theorem lAt_le {tx : Nat → Nat} {un n k : Nat} (hn : n ≤ 6) (h : k ≤ un) : k ≤ lAt tx un n k ∧ lAt tx un n k ≤ un ∧ lBt tx un n k < 2 ^ n := by
  have := ltr_b tx un n hn (un - k) k 0 0 (by omega) (Nat.two_pow_pos _)
  unfold lAt lBt; omega
theorem phP_le {tx : Nat → Nat} {un n k : Nat} (hn : n ≤ 6) (h : k ≤ un) : phP tx un n k ≤ un := by
  obtain ⟨h1, h2, -⟩ := lAt_le (tx := tx) (n := n) hn h
  have h3 := bhd_le (tx := tx) h2
  unfold phP
  split
  · split
    · rename_i hs
      have h4 : bhd tx un (lAt tx un n k) < un := by unfold sgn at hs; simp at hs; exact hs.1
      have h5 := bhd_le (tx := tx) (un := un) (k := bhd tx un (lAt tx un n k) + 1) (by omega)
      split <;> omega
    · omega
  · omega
/-- the text as the class and the reference hold it -/
def tX (tx : Nat → Nat) (un : Nat) (sg : Nat → Int32) : Prop := un ≤ 60 ∧ ∀ i, i < un → sg i = nI (tx i) ∧ 32 ≤ tx i ∧ tx i ≤ 126
theorem m1_sub (k : Nat) : (-1 : Int32) - nI k = -nI (k + 1) := by
  rw [← nI_1, Int32.neg_add, Int32.sub_eq_add_neg, Int32.add_comm, ← Int32.sub_eq_add_neg]
theorem neg_lt {k : Nat} (hk : k < 1000) : -nI (k + 1) < 0 := by
  have h1 := nI_toInt (n := k + 1) (by omega)
  rw [Int32.lt_iff_toInt_lt, Int32.toInt_neg, h1, Int32.toInt_zero, Int.bmod_eq_of_le (by omega) (by omega)]
  omega
theorem pc_dig {F k : Nat} (hk : k < 2 ^ 31) : m_X3_isDigit F (nI k) = some (nI (b2n (decide (48 ≤ k) && decide (k ≤ 57)))) := by
  unfold m_X3_isDigit
  simp (disch := omega) only [pl_48, pl_57, pn_lt]
  by_cases h1 : k < 48
  · rw [if_pos h1, decide_eq_false (by omega), Bool.false_and]; rfl
  · by_cases h2 : 57 < k
    · rw [if_neg h1, if_pos h2, decide_eq_false (show ¬ k ≤ 57 by omega), Bool.and_false]; rfl
    · rw [if_neg h1, if_neg h2, decide_eq_true (show 48 ≤ k by omega), decide_eq_true (show k ≤ 57 by omega)]; rfl
theorem pc_sign {F : Nat} {tx : Nat → Nat} {un : Nat} {sg : Nat → Int32} (ht : tX tx un sg) {z2 : Int32} {k : Nat} (hk : k ≤ 1000) : m_X3_signAt F (nI k) (nI un, z2) sg = some (nI (if k < un then tx k else 0)) := by
  have hun := ht.1
  unfold m_X3_signAt
  rw [if_neg (nI_pos (by omega))]
  by_cases h : k < un
  · rw [if_neg (show ¬ (nI un, z2).1 ≤ nI k from nI_ge h (by omega)), pn_ck (by omega) (by omega), nI_clamp (by omega), (ht.2 k h).1, if_pos h]
  · rw [if_pos (show (nI un, z2).1 ≤ nI k from nI_le (by omega) (by omega)), if_neg h]; rfl
theorem pc_numL {F : Nat} {tx : Nat → Nat} {un : Nat} {sg : Nat → Int32} (ht : tX tx un sg) (x1 x2 x3 : Int32) : ∀ (d k n v : Nat), k + d = un → d < n → v ≤ 32 → m_X3_parseNumber_L22 F sg n x1 x2 x3 (nI k) (nI un, nI v) = m_X3_parseNumber_J77 F sg x1 x2 x3 (nI (nbh tx un d k v).1) (nI un, nI (nbh tx un d k v).2) := by
  have hun := ht.1
  intro d
  induction d with
  | zero =>
    intro k n v hk hn hv
    obtain ⟨n, rfl⟩ : ∃ m, n = m + 1 := ⟨n - 1, by omega⟩
    rw [u_X3_parseNumber_L22, if_pos (show (nI un, nI v).1 ≤ nI k from nI_le (by omega) (by omega))]; rfl
  | succ d ih =>
    intro k n v hk hn hv
    obtain ⟨n, rfl⟩ : ∃ m, n = m + 1 := ⟨n - 1, by omega⟩
    obtain ⟨e1, e2, e3⟩ := ht.2 k (by omega)
    rw [u_X3_parseNumber_L22, if_neg (show ¬ (nI un, nI v).1 ≤ nI k from nI_ge (by omega) (by omega)), pn_ck (by omega) (by omega), nI_clamp (by omega), e1, pc_dig (by omega), pn_bd]
    have hdg : dgt tx un k = (decide (48 ≤ tx k) && decide (tx k ≤ 57)) := by unfold dgt; rw [decide_eq_true (show k < un by omega), Bool.true_and]
    rw [← hdg]
    unfold nbh
    cases hd : dgt tx un k
    · rw [if_pos (show nI (b2n false) = 0 from rfl)]; rfl
    · rw [if_neg (show ¬ nI (b2n true) = 0 by decide), pn_ck (by omega) (by omega), nI_1]
      have h48 : 48 ≤ tx k := by rw [hdg] at hd; simp at hd; exact hd.1
      show m_X3_parseNumber_L22 F sg n x1 x2 x3 (nI (k + 1)) (nI un, if 32 < ((nI v * 10) + nI (tx k)) - 48 then 32 else ((nI v * 10) + nI (tx k)) - 48) = _
      rw [show nI v * 10 = nI (v * 10) from pk_mul v 10, nI_add, show nI (v * 10 + tx k) - 48 = nI (v * 10 + tx k - 48) from pk_sub (b := 48) (by omega)]
      have e4 : (if (32 : Int32) < nI (v * 10 + tx k - 48) then (32 : Int32) else nI (v * 10 + tx k - 48)) = nI (if 32 < v * 10 + tx k - 48 then 32 else v * 10 + tx k - 48) := by
        by_cases hh : 32 < v * 10 + tx k - 48
        · rw [if_pos (show (32 : Int32) < nI (v * 10 + tx k - 48) from nI_lt (a := 32) hh (by omega)), if_pos hh]; rfl
        · rw [if_neg (show ¬ (32 : Int32) < nI (v * 10 + tx k - 48) from nI_nlt (a := 32) (by omega) (by omega)), if_neg hh]
      rw [e4]
      exact ih (k + 1) n _ (by omega) (by omega) (by split <;> omega)
theorem nmv_no {tx : Nat → Nat} {un k : Nat} (h : dgt tx un k = false) : nmv tx un k = 0 ∧ bhd tx un k = k := by
  unfold nmv bhd
  cases hd : un - k with
  | zero => exact ⟨rfl, rfl⟩
  | succ d => unfold nbh; rw [h]; exact ⟨rfl, rfl⟩
theorem pc_numP {F : Nat} (hF : 2000 ≤ F) {tx : Nat → Nat} {un : Nat} {sg : Nat → Int32} (ht : tX tx un sg) (z2 : Int32) {k lo hi : Nat} (hk : k ≤ un) (hlo : 1 ≤ lo) (hlo2 : lo ≤ 31) (hhi : hi ≤ 31) : ∃ v, m_X3_parseNumber F (nI k) (nI lo) (nI hi) (nI un, z2) sg = some (if okN tx un k lo hi then nI (bhd tx un k) else -nI (k + 1), (nI un, v)) ∧ (okN tx un k lo hi = true → v = nI (nmv tx un k)) := by
  have hun := ht.1
  have hb := bhd_le (tx := tx) hk
  have hv := nmv_le (tx := tx) hk
  unfold m_X3_parseNumber
  show ∃ v, gk_bd (m_X3_signAt F (nI k) (nI un, 0) sg) _ = _ ∧ _
  rw [pc_sign ht (by omega), pn_bd]
  by_cases h0 : k < un ∧ tx k = 48
  · rw [if_pos h0.1, h0.2, if_pos (show nI 48 = 48 from rfl)]
    have hok : okN tx un k lo hi = false := by unfold okN; rw [h0.2]; simp
    refine ⟨0, ?_, fun h => by rw [hok] at h; exact absurd h (by decide)⟩
    rw [hok, m1_sub]; rfl
  · have hne : ¬ nI (if k < un then tx k else 0) = 48 := fun h => by
      by_cases hh : k < un
      · rw [if_pos hh] at h
        have := (nI_eq (b := 48) (by have := (ht.2 k hh).2.2; omega) (by omega)).mp h
        exact h0 ⟨hh, this⟩
      · rw [if_neg hh] at h; exact absurd h (by decide)
    rw [if_neg hne]
    show ∃ v, m_X3_parseNumber_L22 F sg F (nI k) (nI lo) (nI hi) (nI k) (nI un, nI 0) = _ ∧ _
    rw [pc_numL ht _ _ _ (un - k) k F 0 (by omega) (by omega) (by omega)]
    refine ⟨nI (nmv tx un k), ?_, fun _ => rfl⟩
    show m_X3_parseNumber_J77 F sg (nI k) (nI lo) (nI hi) (nI (bhd tx un k)) (nI un, nI (nmv tx un k)) = _
    unfold m_X3_parseNumber_J77 m_X3_parseNumber_J93
    rw [m1_sub]
    simp (disch := omega) only [pn_lt, pn_le]
    by_cases c1 : nmv tx un k < lo
    · have hok : okN tx un k lo hi = false := by unfold okN; rw [decide_eq_false (show ¬ lo ≤ nmv tx un k by omega), Bool.and_false]; rfl
      rw [if_pos c1, hok]; rfl
    · have hd : dgt tx un k = true := by
        cases hd : dgt tx un k
        · have := (nmv_no hd).1; omega
        · rfl
      have h48 : (tx k != 48) = true := by
        have : k < un := by unfold dgt at hd; simp at hd; omega
        simp; exact fun h => h0 ⟨this, h⟩
      by_cases c2 : nmv tx un k ≤ hi
      · have hok : okN tx un k lo hi = true := by unfold okN; rw [hd, h48, decide_eq_true (show lo ≤ nmv tx un k by omega), decide_eq_true c2]; rfl
        rw [if_neg c1, if_pos c2, hok]; rfl
      · have hok : okN tx un k lo hi = false := by unfold okN; rw [decide_eq_false c2, Bool.and_false]
        rw [if_neg c1, if_neg c2, hok]; rfl
