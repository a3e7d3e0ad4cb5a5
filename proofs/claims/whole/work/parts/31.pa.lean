/-! small numbers, bits, loops (the rows bt .. nx_xor are given ones, pasted) -/
def bt (x : Int32) (i : Nat) : Bool := x.toBitVec.getLsbD i
theorem b_ext {x y : Int32} (h : ∀ i, i < 32 → bt x i = bt y i) : x = y := Int32.toBitVec_inj.mp (BitVec.eq_of_getLsbD_eq (fun i hi => h i hi))
theorem b_or (x y : Int32) (i : Nat) : bt (x ||| y) i = (bt x i || bt y i) := by unfold bt; rw [Int32.toBitVec_or, BitVec.getLsbD_or]
theorem b_and (x y : Int32) (i : Nat) : bt (x &&& y) i = (bt x i && bt y i) := by unfold bt; rw [Int32.toBitVec_and, BitVec.getLsbD_and]
theorem b_xor (x y : Int32) (i : Nat) : bt (x ^^^ y) i = (bt x i ^^ bt y i) := by unfold bt; rw [Int32.toBitVec_xor, BitVec.getLsbD_xor]
theorem b_big {x : Int32} {i : Nat} (h : 32 ≤ i) : bt x i = false := BitVec.getLsbD_of_ge _ _ h
theorem b_m1 : ∀ i, i < 32 → bt (-1) i = true := by decide +kernel
theorem b_0 (i : Nat) : bt 0 i = false := BitVec.getLsbD_zero
theorem s_l : ∀ n, n < 32 → ((nI n &&& 31).toBitVec.smod 32).toNat = n := by decide +kernel
theorem b_shl (n : Nat) (hn : n < 32) (x : Int32) {i : Nat} (hi : i < 32) : bt (x <<< (nI n &&& 31)) i = (decide (n ≤ i) && bt x (i - n)) := by
  unfold bt
  rw [Int32.toBitVec_shiftLeft]
  show (x.toBitVec <<< ((nI n &&& 31).toBitVec.smod 32).toNat).getLsbD i = _
  rw [s_l n hn, BitVec.getLsbD_shiftLeft]
  rcases Nat.lt_or_ge i n with h | h
  · simp [h, Nat.not_le.mpr h]
  · simp [hi, h, Nat.not_lt.mpr h]
theorem b_sshr (n : Nat) (hn : n < 32) (x : Int32) {i : Nat} (hi : i < 32) : bt (x >>> (nI n &&& 31)) i = if n + i < 32 then bt x (n + i) else bt x 31 := by
  unfold bt
  rw [Int32.toBitVec_shiftRight]
  show (x.toBitVec.sshiftRight ((nI n &&& 31).toBitVec.smod 32).toNat).getLsbD i = _
  rw [s_l n hn, BitVec.getLsbD_sshiftRight, BitVec.msb_eq_getLsbD_last]
  simp [hi]
theorem nx_and (a b : Nat) : nI a &&& nI b = nI (a &&& b) := by
  apply Int32.toBitVec_inj.1
  show BitVec.ofNat 32 a &&& BitVec.ofNat 32 b = BitVec.ofNat 32 (a &&& b)
  apply BitVec.eq_of_getLsbD_eq
  intro i hi
  simp [hi]
theorem nx_xor (a b : Nat) : nI a ^^^ nI b = nI (a ^^^ b) := by
  apply Int32.toBitVec_inj.1
  show BitVec.ofNat 32 a ^^^ BitVec.ofNat 32 b = BitVec.ofNat 32 (a ^^^ b)
  apply BitVec.eq_of_getLsbD_eq
  intro i hi
  simp [hi]
theorem b_1 : ∀ i, i < 32 → bt 1 i = decide (i = 0) := by decide +kernel
theorem pb_nI (k i : Nat) : bt (nI k) i = (decide (i < 32) && k.testBit i) := by
  show (BitVec.ofNat 32 k).getLsbD i = _
  rw [BitVec.getLsbD_ofNat]
theorem pn_or (a b : Nat) : nI a ||| nI b = nI (a ||| b) := by
  apply b_ext; intro i hi
  rw [b_or, pb_nI, pb_nI, pb_nI, Nat.testBit_or]; simp [hi]
def andn (a b : Nat) : Nat := a ^^^ (a &&& b)
theorem andn_bit (a b i : Nat) : (andn a b).testBit i = (a.testBit i && !b.testBit i) := by
  unfold andn; rw [Nat.testBit_xor, Nat.testBit_and]; cases a.testBit i <;> cases b.testBit i <;> rfl
theorem andn_lt {a b n : Nat} (h : a < 2 ^ n) : andn a b < 2 ^ n := Nat.xor_lt_two_pow h (by rw [Nat.and_comm]; exact Nat.and_lt_two_pow _ h)
theorem and_lt {a b n : Nat} (h : a < 2 ^ n) : a &&& b < 2 ^ n := by rw [Nat.and_comm]; exact Nat.and_lt_two_pow _ h
theorem pn_andn (a b : Nat) : nI a &&& (nI b ^^^ (-1)) = nI (andn a b) := by
  apply b_ext; intro i hi
  rw [b_and, b_xor, b_m1 i hi, pb_nI, pb_nI, pb_nI, andn_bit]; simp [hi]
theorem pm_andn (a b : Nat) : nI a &&& (nI b ^^^ (-nI 1)) = nI (andn a b) := pn_andn a b
theorem pn_sh (x : Int32) {j : Nat} (hj : j < 32) : (x >>> (nI j &&& 31)) &&& 1 = if bt x j then 1 else 0 := by
  apply b_ext; intro i hi
  rw [b_and, b_sshr j hj x hi, b_1 i hi]
  by_cases h : i = 0
  · subst h
    simp only [Nat.add_zero, hj, if_true, decide_true, Bool.and_true]
    cases h : bt x j
    · rw [if_neg (by decide), b_0]
    · rw [if_pos rfl, b_1 0 (by omega)]; rfl
  · rw [decide_eq_false h, Bool.and_false]
    split
    · rw [b_1 i hi, decide_eq_false h]
    · rw [b_0]
theorem pn_b (k : Nat) {j : Nat} (hj : j < 32) : (nI k >>> (nI j &&& 31)) &&& 1 = if k.testBit j then 1 else 0 := by
  rw [pn_sh _ hj, pb_nI]; simp [hj]
theorem pn_b0 {k j : Nat} (hj : j < 32) : ((nI k >>> (nI j &&& nI 31)) &&& nI 1 = nI 0) = (k.testBit j = false) := by
  show ((nI k >>> (nI j &&& 31)) &&& 1 = 0) = _
  rw [pn_b k hj]; cases k.testBit j <;> simp
theorem pn_b1 {k j : Nat} (hj : j < 32) : ((nI k >>> (nI j &&& nI 31)) &&& nI 1 = nI 1) = (k.testBit j = true) := by
  show ((nI k >>> (nI j &&& 31)) &&& 1 = 1) = _
  rw [pn_b k hj]; cases k.testBit j <;> simp
theorem pn_sl0 : ∀ g, g < 31 → (1 : Int32) <<< (nI g &&& 31) = nI (2 ^ g) := by decide +kernel
theorem pn_sl {g : Nat} (h : g < 31) : nI 1 <<< (nI g &&& nI 31) = nI (2 ^ g) := pn_sl0 g h
theorem pn_le {a b : Nat} (ha : a < 2 ^ 31) (hb : b < 2 ^ 31) : (nI a ≤ nI b) = (a ≤ b) := propext (nI_leI ha hb)
theorem pn_lt {a b : Nat} (ha : a < 2 ^ 31) (hb : b < 2 ^ 31) : (nI a < nI b) = (a < b) := propext (nI_ltI ha hb)
theorem pn_eq {a b : Nat} (ha : a < 2 ^ 31) (hb : b < 2 ^ 31) : (nI a = nI b) = (a = b) := propext (nI_eq ha hb)
theorem pn_ck {α : Type} {k n : Nat} {b : Option α} (h : k < n) (hn : n < 2 ^ 31) : gk_ck (nI k) n b = b := gk_ck_in b (vp_in_nI h hn)
theorem pn_bd {α β : Type} (a : α) (k : α → Option β) : gk_bd (some a) k = k a := rfl
theorem pn_bz0 {α : Type} (k : Option α) : gk_bz (nI 0) k = k := rfl
theorem pn_bz1 {α : Type} (k : Option α) : gk_bz (nI 1) k = k := rfl
theorem pn_dz {α : Type} {d : Nat} (h : 0 < d) (hd : d < 2 ^ 31) (k : Option α) : gk_dz (nI d) k = k := if_neg (nI_ne0 h hd)
theorem z00 : nI 0 = (0 : Int32) := rfl
theorem z10 : ¬ nI 1 = (0 : Int32) := by decide
theorem zn0 {a : Nat} (h : a ≠ 0) (ha : a < 2 ^ 31) : ¬ nI a = (0 : Int32) := fun e => h ((nI_eq (b := 0) ha (by omega)).mp e)
theorem upd_same (f : Nat → Int32) (k : Nat) (x : Int32) : upd f k x k = x := if_pos rfl
theorem upd_ne {f : Nat → Int32} {j k : Nat} {x : Int32} (h : j ≠ k) : upd f k x j = f j := if_neg h
/-- a loop that counts k up to N -/
theorem lpA {α γ : Type} {L : Nat → Nat → α → γ} {N : Nat} {Inv : Nat → α → Prop} (hs : ∀ n k a, k < N → Inv k a → ∃ a', L (n + 1) k a = L n (k + 1) a' ∧ Inv (k + 1) a') : ∀ (d n k : Nat) (a : α), k + d = N → d < n → Inv k a → ∃ n' a', L n k a = L (n' + 1) N a' ∧ Inv N a' := by
  intro d
  induction d with
  | zero =>
    intro n k a hk hn hi
    obtain ⟨n', rfl⟩ : ∃ n', n = n' + 1 := ⟨n - 1, by omega⟩
    have hk : k = N := by omega
    subst hk
    exact ⟨n', a, rfl, hi⟩
  | succ d ih =>
    intro n k a hk hn hi
    obtain ⟨n', rfl⟩ : ∃ n', n = n' + 1 := ⟨n - 1, by omega⟩
    obtain ⟨a', h1, h2⟩ := hs n' k a (by omega) hi
    obtain ⟨n2, a2, h3, h4⟩ := ih n' (k + 1) a' (by omega) (by omega) h2
    exact ⟨n2, a2, h1.trans h3, h4⟩
/-- a loop that may end early -/
theorem lpB {α γ : Type} {L : Nat → Nat → α → γ} {N : Nat} {Inv : Nat → α → Prop} {Out : γ → Prop} (hs : ∀ n k a, k < N → Inv k a → (∃ a', L (n + 1) k a = L n (k + 1) a' ∧ Inv (k + 1) a') ∨ Out (L (n + 1) k a)) : ∀ (d n k : Nat) (a : α), k + d = N → d < n → Inv k a → (∃ n' a', L n k a = L (n' + 1) N a' ∧ Inv N a') ∨ Out (L n k a) := by
  intro d
  induction d with
  | zero =>
    intro n k a hk hn hi
    obtain ⟨n', rfl⟩ : ∃ n', n = n' + 1 := ⟨n - 1, by omega⟩
    have hk : k = N := by omega
    subst hk
    exact Or.inl ⟨n', a, rfl, hi⟩
  | succ d ih =>
    intro n k a hk hn hi
    obtain ⟨n', rfl⟩ : ∃ n', n = n' + 1 := ⟨n - 1, by omega⟩
    rcases hs n' k a (by omega) hi with ⟨a', h1, h2⟩ | h
    · rcases ih n' (k + 1) a' (by omega) (by omega) h2 with ⟨n2, a2, h3, h4⟩ | h3
      · exact Or.inl ⟨n2, a2, h1.trans h3, h4⟩
      · exact Or.inr (h1 ▸ h3)
    · exact Or.inr h
theorem pl_0 : (0 : Int32) = nI 0 := rfl
theorem pl_1 : (1 : Int32) = nI 1 := rfl
theorem pl_2 : (2 : Int32) = nI 2 := rfl
theorem pl_3 : (3 : Int32) = nI 3 := rfl
theorem pl_4 : (4 : Int32) = nI 4 := rfl
theorem pl_5 : (5 : Int32) = nI 5 := rfl
theorem pl_6 : (6 : Int32) = nI 6 := rfl
theorem pl_7 : (7 : Int32) = nI 7 := rfl
theorem pl_8 : (8 : Int32) = nI 8 := rfl
theorem pl_9 : (9 : Int32) = nI 9 := rfl
theorem pl_10 : (10 : Int32) = nI 10 := rfl
theorem pl_11 : (11 : Int32) = nI 11 := rfl
theorem pl_12 : (12 : Int32) = nI 12 := rfl
theorem pl_13 : (13 : Int32) = nI 13 := rfl
theorem pl_14 : (14 : Int32) = nI 14 := rfl
theorem pl_15 : (15 : Int32) = nI 15 := rfl
theorem pl_31 : (31 : Int32) = nI 31 := rfl
theorem pl_32 : (32 : Int32) = nI 32 := rfl
theorem pl_45 : (45 : Int32) = nI 45 := rfl
theorem pl_48 : (48 : Int32) = nI 48 := rfl
theorem pl_57 : (57 : Int32) = nI 57 := rfl
theorem pl_59 : (59 : Int32) = nI 59 := rfl
theorem pl_60 : (60 : Int32) = nI 60 := rfl
theorem pl_65 : (65 : Int32) = nI 65 := rfl
theorem pl_99 : (99 : Int32) = nI 99 := rfl
theorem pl_100 : (100 : Int32) = nI 100 := rfl
theorem pl_126 : (126 : Int32) = nI 126 := rfl
theorem pl_400 : (400 : Int32) = nI 400 := rfl
theorem pl_1000 : (1000 : Int32) = nI 1000 := rfl
theorem pl_1024 : (1024 : Int32) = nI 1024 := rfl
