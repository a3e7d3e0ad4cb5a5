/-! a state as one number (the rows wb_tb .. g_or are given ones, pasted) -/
theorem wb_tb (n : Nat) : (lN n).toBitVec = BitVec.ofNat 64 n := rfl
theorem wb_inj {a b : Int64} (h : a.toBitVec = b.toBitVec) : a = b := Int64.toBitVec_inj.mp h
theorem wb_tn {n : Nat} (h : n < 2 ^ 64) : (lN n).toBitVec.toNat = n := by rw [wb_tb, BitVec.toNat_ofNat, Nat.mod_eq_of_lt h]
theorem wb_of (x : Int64) : ∃ n, n < 2 ^ 64 ∧ x = lN n := ⟨x.toBitVec.toNat, x.toBitVec.isLt, wb_inj (by rw [wb_tb]; simp)⟩
theorem wb_c : ∀ k, k < 64 → ((nI k).toInt64 &&& 63) = lN k := by decide +kernel
theorem wb_cu : ∀ k, k < 64 → ((nI k).toInt64.toUInt64 &&& Int64.toUInt64 63) = UInt64.ofNat k := by decide +kernel
theorem wb_sm : ∀ k, k < 64 → (BitVec.ofNat 64 k).smod 64 = BitVec.ofNat 64 k := by decide +kernel
theorem wb_lt2 {a b : Nat} (h : a < b) : 2 ^ a < 2 ^ b := Nat.pow_lt_pow_right (by decide) h
theorem wb_shr {n k : Nat} (hn : n < 2 ^ 64) (hk : k < 64) : ((lN n).toUInt64 >>> ((nI k).toInt64.toUInt64 &&& Int64.toUInt64 63)).toInt64 = lN (n / 2 ^ k) := by
  rw [wb_cu k hk]
  apply wb_inj
  apply BitVec.eq_of_toNat_eq
  show ((lN n).toUInt64 >>> UInt64.ofNat k).toNat = (BitVec.ofNat 64 _).toNat
  have h1 : (UInt64.ofNat k).toNat = k := by
    show (BitVec.ofNat 64 k).toNat = k
    rw [BitVec.toNat_ofNat, Nat.mod_eq_of_lt (by omega)]
  have h2 : (lN n).toUInt64.toNat = n := wb_tn hn
  rw [UInt64.toNat_shiftRight, h1, h2, Nat.mod_eq_of_lt hk, Nat.shiftRight_eq_div_pow, BitVec.toNat_ofNat, Nat.mod_eq_of_lt (Nat.lt_of_le_of_lt (Nat.div_le_self _ _) hn)]
theorem wb_shl (n : Nat) {k : Nat} (hk : k < 64) : lN n <<< ((nI k).toInt64 &&& 63) = lN (n * 2 ^ k) := by
  rw [wb_c k hk]
  apply wb_inj
  rw [Int64.toBitVec_shiftLeft, wb_tb, wb_tb, wb_tb, wb_sm k hk]
  apply BitVec.eq_of_toNat_eq
  rw [BitVec.shiftLeft_eq', BitVec.toNat_shiftLeft, BitVec.toNat_ofNat, BitVec.toNat_ofNat, BitVec.toNat_ofNat, Nat.mod_eq_of_lt (show k < 2 ^ 64 by omega), Nat.shiftLeft_eq, Nat.mul_mod, Nat.mod_mod, ← Nat.mul_mod]
theorem wb_and {a b : Nat} (ha : a < 2 ^ 64) (hb : b < 2 ^ 64) : lN a &&& lN b = lN (a &&& b) := by
  apply wb_inj
  rw [Int64.toBitVec_and, wb_tb, wb_tb, wb_tb]
  apply BitVec.eq_of_toNat_eq
  rw [BitVec.toNat_and, BitVec.toNat_ofNat, BitVec.toNat_ofNat, BitVec.toNat_ofNat, Nat.mod_eq_of_lt ha, Nat.mod_eq_of_lt hb, Nat.mod_eq_of_lt (Nat.and_lt_two_pow _ hb)]
theorem wb_mask {n k : Nat} (hn : n < 2 ^ 64) (hk : k < 64) : lN n &&& lN (2 ^ k - 1) = lN (n % 2 ^ k) := by
  rw [wb_and hn (by have := wb_lt2 hk; omega), Nat.and_two_pow_sub_one_eq_mod]
theorem u_tn {n : Nat} (h : n < 2 ^ 64) : (UInt64.ofNat n).toNat = n := Nat.mod_eq_of_lt h
theorem g_or {k p a b : Nat} (hp : 2 ^ k = p) (ha : a < p) (h : b * p + a < 2 ^ 64) : lN (b * p) ||| lN a = lN (b * p + a) := by
  subst hp
  have h1 : b * 2 ^ k ||| a = b * 2 ^ k + a := by rw [← Nat.shiftLeft_eq, Nat.shiftLeft_add_eq_or_of_lt ha]
  have h3 : UInt64.ofNat (b * 2 ^ k) ||| UInt64.ofNat a = UInt64.ofNat (b * 2 ^ k + a) := UInt64.toNat_inj.mp (by rw [UInt64.toNat_or, u_tn (by omega), u_tn (by omega), u_tn h, h1])
  have h2 := congrArg UInt64.toInt64 h3
  exact h2
def pkA (s : Nat → Nat) : Nat := ((((s 13 * 32 + s 12) * 32 + s 11) * 32 + s 10) * 32 + s 9) * 32 + s 8
/-- a state as one number -/
def pkN (s : Nat → Nat) : Nat := (((((pkA s * 64 + s 7) * 4 + s 6) * 16 + (5 * s 4 + s 5)) * 16 + s 3) * 32 + s 2) * 16 + (5 * s 0 + s 1)
/-- what the number's parts are below -/
def pkB (s : Nat → Nat) : Prop := 5 * s 0 + s 1 < 15 ∧ s 2 < 32 ∧ s 3 < 16 ∧ 5 * s 4 + s 5 < 15 ∧ s 6 < 4 ∧ s 7 < 64 ∧ s 8 < 32 ∧ s 9 < 32 ∧ s 10 < 32 ∧ s 11 < 32 ∧ s 12 < 32 ∧ s 13 < 32 ∧ s 1 < 5 ∧ s 5 < 5
theorem sV_b {X : Nat → Nat → Nat} (hX : xG X) {s : Nat → Nat} (hs : sV X s) : pkB s := by
  obtain ⟨h1, h2, h3, h4, h5, h6, h7, -⟩ := hs
  have hP := hX.2.2.1
  have h64 := x_64 hX
  have a0 : s 8 ≤ 31 := h7 0 (by omega)
  have a1 : s 9 ≤ 31 := h7 1 (by omega)
  have a2 : s 10 ≤ 31 := h7 2 (by omega)
  have a3 : s 11 ≤ 31 := h7 3 (by omega)
  have a4 : s 12 ≤ 31 := h7 4 (by omega)
  have a5 : s 13 ≤ 31 := h7 5 (by omega)
  have p1 := (hX.2.2.2.2.2.2 (s 0) h1.1).2.1
  have p4 := (hX.2.2.2.2.2.2 (s 4) h4.1).2.1
  exact ⟨x_pl hX h1.1 h1.2, by omega, by omega, x_pl hX h4.1 h4.2, by omega, by omega, by omega, by omega, by omega, by omega, by omega, by omega, by omega, by omega⟩
theorem pkA_lt {s : Nat → Nat} (h : pkB s) : pkA s < 1073741824 := by
  obtain ⟨-, -, -, -, -, -, a0, a1, a2, a3, a4, a5, -⟩ := h
  unfold pkA; omega
theorem pkN_lt {s : Nat → Nat} (h : pkB s) : pkN s < 36028797018963968 := by
  have hA := pkA_lt h
  obtain ⟨h0, h2, h3, h4, h6, h7, -⟩ := h
  unfold pkN; omega
theorem pk_inj {s t : Nat → Nat} (hs : pkB s) (ht : pkB t) (h : pkN s = pkN t) : ∀ i, i < 14 → s i = t i := by
  have hA := pkA_lt hs
  have hB := pkA_lt ht
  obtain ⟨h0, h2, h3, h4, h6, h7, a0, a1, a2, a3, a4, a5, h1, h5⟩ := hs
  obtain ⟨g0, g2, g3, g4, g6, g7, b0, b1, b2, b3, b4, b5, g1, g5⟩ := ht
  have e1 : pkA s = pkA t ∧ s 7 = t 7 ∧ s 6 = t 6 ∧ 5 * s 4 + s 5 = 5 * t 4 + t 5 ∧ s 3 = t 3 ∧ s 2 = t 2 ∧ 5 * s 0 + s 1 = 5 * t 0 + t 1 := by
    unfold pkN at h
    generalize pkA s = A at *
    generalize pkA t = B at *
    omega
  obtain ⟨e1, e7, e6, e4, e3, e2, e0⟩ := e1
  unfold pkA at e1
  refine i14 ⟨by omega, by omega, e2, e3, by omega, by omega, e6, e7⟩ (fun g hg => ?_)
  match g, hg with
  | 0, _ => show s 8 = t 8; omega
  | 1, _ => show s 9 = t 9; omega
  | 2, _ => show s 10 = t 10; omega
  | 3, _ => show s 11 = t 11; omega
  | 4, _ => show s 12 = t 12; omega
  | 5, _ => show s 13 = t 13; omega
theorem pk_cong {s t : Nat → Nat} (h : ∀ i, i < 14 → s i = t i) : pkN s = pkN t := by
  unfold pkN pkA
  rw [h 0 (by omega), h 1 (by omega), h 2 (by omega), h 3 (by omega), h 4 (by omega), h 5 (by omega), h 6 (by omega), h 7 (by omega), h 8 (by omega), h 9 (by omega), h 10 (by omega), h 11 (by omega), h 12 (by omega), h 13 (by omega)]
theorem lsh {k : Nat} (a x p : Nat) (hk : k < 64) (hp : 2 ^ k = p) (hx : x < p) (hx2 : x < 2 ^ 31) (h : a * p + x < 2 ^ 64) : (lN a <<< ((nI k).toInt64 &&& 63)) ||| (nI x).toInt64 = lN (a * p + x) := by
  rw [wb_shl a hk, hp, nI_l hx2, g_or hp hx h]
theorem pc_pack {F : Nat} (hF : 2000 ≤ F) {s : Nat → Nat} {zM : Int32 × Int32 × Int32 × Int32 × Int32 × Int32 × Int32 × Int32} {ag : Nat → Int32} (hb : pkB s) (hR : cR s zM ag) : m_X2_packed F zM ag = some (lN (pkN s)) := by
  obtain ⟨⟨bg, cs, rfl⟩, ha⟩ := hR
  have hA := pkA_lt hb
  obtain ⟨h0, h2, h3, h4, h6, h7, a0, a1, a2, a3, a4, a5, h1, h5⟩ := hb
  obtain ⟨n, rfl⟩ : ∃ n, F = n + 7 := ⟨F - 7, by omega⟩
  unfold m_X2_packed
  have g0 := ha 0 (by omega)
  have g1 := ha 1 (by omega)
  have g2 := ha 2 (by omega)
  have g3 := ha 3 (by omega)
  have g4 := ha 4 (by omega)
  have g5 := ha 5 (by omega)
  have hm : ∀ k, nI (k + 1) + (-1) = nI k := pk_m1
  have b0 : s (8 + 0) < 32 := a0
  have b1 : s (8 + 1) < 32 := a1
  have b2 : s (8 + 2) < 32 := a2
  have b3 : s (8 + 3) < 32 := a3
  have b4 : s (8 + 4) < 32 := a4
  have b5 : s (8 + 5) < 32 := a5
  have t5 : ∀ (a x : Nat), x < 32 → a * 32 + x < 2 ^ 63 → (lN a <<< ((5 : Int32).toInt64 &&& 63)) ||| (nI x).toInt64 = lN (a * 32 + x) := fun a x hx h => lsh (k := 5) a x 32 (by omega) rfl hx (by omega) (by omega)
  have t6 : ∀ (a x : Nat), x < 64 → a * 64 + x < 2 ^ 63 → (lN a <<< ((6 : Int32).toInt64 &&& 63)) ||| (nI x).toInt64 = lN (a * 64 + x) := fun a x hx h => lsh (k := 6) a x 64 (by omega) rfl hx (by omega) (by omega)
  have t2 : ∀ (a x : Nat), x < 4 → a * 4 + x < 2 ^ 63 → (lN a <<< ((2 : Int32).toInt64 &&& 63)) ||| (nI x).toInt64 = lN (a * 4 + x) := fun a x hx h => lsh (k := 2) a x 4 (by omega) rfl hx (by omega) (by omega)
  have t4 : ∀ (a x : Nat), x < 16 → a * 16 + x < 2 ^ 63 → (lN a <<< ((4 : Int32).toInt64 &&& 63)) ||| (nI x).toInt64 = lN (a * 16 + x) := fun a x hx h => lsh (k := 4) a x 16 (by omega) rfl hx (by omega) (by omega)
  have turn : ∀ (m k A : Nat), k < 6 → s (8 + k) < 32 → A * 32 + s (8 + k) < 2 ^ 63 → m_X2_packed_L4 (n + 7) (nI (5 * s 0 + s 1), nI (s 2), nI (s 3), nI (5 * s 4 + s 5), nI (s 6), nI (s 7), bg, cs) ag (m + 1) (lN A) (nI k) = m_X2_packed_L4 (n + 7) (nI (5 * s 0 + s 1), nI (s 2), nI (s 3), nI (5 * s 4 + s 5), nI (s 6), nI (s 7), bg, cs) ag m (lN (A * 32 + s (8 + k))) (nI k + (-1)) := fun m k A hk hs hlt => by
    rw [u_X2_packed_L4, if_neg (nI_pos (by omega)), pn_ck hk (by omega), nI_clamp (by omega), ha k hk, t5 A _ hs hlt]
  show m_X2_packed_L4 (n + 7) _ ag (n + 7) (lN 0) (nI 5) = _
  rw [turn (n + 6) 5 0 (by omega) a5 (by omega), hm 4, turn (n + 5) 4 _ (by omega) a4 (by omega), hm 3, turn (n + 4) 3 _ (by omega) a3 (by omega), hm 2, turn (n + 3) 2 _ (by omega) a2 (by omega), hm 1, turn (n + 2) 1 _ (by omega) a1 (by omega), hm 0, turn (n + 1) 0 _ (by omega) a0 (by omega)]
  rw [u_X2_packed_L4, if_pos (show nI 0 + (-1) < 0 by decide)]
  have eA : (((((0 * 32 + s (8 + 5)) * 32 + s (8 + 4)) * 32 + s (8 + 3)) * 32 + s (8 + 2)) * 32 + s (8 + 1)) * 32 + s (8 + 0) = pkA s := by
    unfold pkA; rw [Nat.zero_mul, Nat.zero_add]
  rw [eA]
  show some (((((((((((((lN (pkA s) <<< ((6 : Int32).toInt64 &&& 63)) ||| (nI (s 7)).toInt64) <<< ((2 : Int32).toInt64 &&& 63)) ||| (nI (s 6)).toInt64) <<< ((4 : Int32).toInt64 &&& 63)) ||| (nI (5 * s 4 + s 5)).toInt64) <<< ((4 : Int32).toInt64 &&& 63)) ||| (nI (s 3)).toInt64) <<< ((5 : Int32).toInt64 &&& 63)) ||| (nI (s 2)).toInt64) <<< ((4 : Int32).toInt64 &&& 63)) ||| (nI (5 * s 0 + s 1)).toInt64)) = _
  generalize hq : pkA s = A at *
  rw [t6 A _ h7 (by omega), t2 _ _ h6 (by omega), t4 _ _ (by omega) (by omega), t4 _ _ h3 (by omega), t5 _ _ h2 (by omega), t4 _ _ (by omega) (by omega)]
  unfold pkN; rw [hq]
theorem pc_low {F b p n : Nat} (hb : b < 31) (hp : 2 ^ b = p) : m_X2_low F (lN n) (nI b) = some (nI (n % p)) := by
  unfold m_X2_low
  rw [lN_i, show (1 : Int32) <<< (nI b &&& 31) = nI (2 ^ b) from pn_sl0 b hb, show nI (2 ^ b) - 1 = nI (2 ^ b - 1) from pk_sub (b := 1) (Nat.one_le_two_pow), nx_and, Nat.and_two_pow_sub_one_eq_mod, hp]
theorem mdm {a b p : Nat} (hb : b < p) : (a * p + b) % p = b ∧ (a * p + b) / p = a := by
  have hp : 0 < p := by omega
  refine ⟨?_, ?_⟩
  · rw [Nat.add_comm, Nat.add_mul_mod_self_right, Nat.mod_eq_of_lt hb]
  · rw [Nat.add_comm, Nat.add_mul_div_right _ _ hp, Nat.div_eq_of_lt hb, Nat.zero_add]
theorem pc_unpack {F : Nat} (hF : 2000 ≤ F) {s : Nat → Nat} (zM : Int32 × Int32 × Int32 × Int32 × Int32 × Int32 × Int32 × Int32) (ag : Nat → Int32) (hb : pkB s) : ∃ zM' ag', m_X2_unpack F (lN (pkN s)) zM ag = some (zM', ag') ∧ cR s zM' ag' := by
  have hA := pkA_lt hb
  obtain ⟨h0, h2, h3, h4, h6, h7, a0, a1, a2, a3, a4, a5, h1, h5⟩ := hb
  have r4 : ∀ {n : Nat}, n < 2 ^ 64 → ((lN n).toUInt64 >>> ((4 : Int32).toInt64.toUInt64 &&& Int64.toUInt64 63)).toInt64 = lN (n / 16) := fun h => wb_shr (k := 4) h (by omega)
  have r5 : ∀ {n : Nat}, n < 2 ^ 64 → ((lN n).toUInt64 >>> ((5 : Int32).toInt64.toUInt64 &&& Int64.toUInt64 63)).toInt64 = lN (n / 32) := fun h => wb_shr (k := 5) h (by omega)
  have r2 : ∀ {n : Nat}, n < 2 ^ 64 → ((lN n).toUInt64 >>> ((2 : Int32).toInt64.toUInt64 &&& Int64.toUInt64 63)).toInt64 = lN (n / 4) := fun h => wb_shr (k := 2) h (by omega)
  have r6 : ∀ {n : Nat}, n < 2 ^ 64 → ((lN n).toUInt64 >>> ((6 : Int32).toInt64.toUInt64 &&& Int64.toUInt64 63)).toInt64 = lN (n / 64) := fun h => wb_shr (k := 6) h (by omega)
  have w4 : ∀ n, m_X2_low F (lN n) 4 = some (nI (n % 16)) := fun n => pc_low (b := 4) (by omega) rfl
  have w5 : ∀ n, m_X2_low F (lN n) 5 = some (nI (n % 32)) := fun n => pc_low (b := 5) (by omega) rfl
  have w2 : ∀ n, m_X2_low F (lN n) 2 = some (nI (n % 4)) := fun n => pc_low (b := 2) (by omega) rfl
  have w6 : ∀ n, m_X2_low F (lN n) 6 = some (nI (n % 64)) := fun n => pc_low (b := 6) (by omega) rfl
  obtain ⟨m1, d1⟩ := mdm (a := ((((pkA s * 64 + s 7) * 4 + s 6) * 16 + (5 * s 4 + s 5)) * 16 + s 3) * 32 + s 2) (b := 5 * s 0 + s 1) (p := 16) (by omega)
  obtain ⟨m2, d2⟩ := mdm (a := (((pkA s * 64 + s 7) * 4 + s 6) * 16 + (5 * s 4 + s 5)) * 16 + s 3) (b := s 2) (p := 32) h2
  obtain ⟨m3, d3⟩ := mdm (a := ((pkA s * 64 + s 7) * 4 + s 6) * 16 + (5 * s 4 + s 5)) (b := s 3) (p := 16) h3
  obtain ⟨m4, d4⟩ := mdm (a := (pkA s * 64 + s 7) * 4 + s 6) (b := 5 * s 4 + s 5) (p := 16) (by omega)
  obtain ⟨m6, d6⟩ := mdm (a := pkA s * 64 + s 7) (b := s 6) (p := 4) h6
  obtain ⟨m7, d7⟩ := mdm (a := pkA s) (b := s 7) (p := 64) h7
  unfold m_X2_unpack pkN
  rw [w4, pn_bd, m1, r4 (by omega), d1, w5, pn_bd, m2, r5 (by omega), d2, w4, pn_bd, m3, r4 (by omega), d3, w4, pn_bd, m4, r4 (by omega), d4, w2, pn_bd, m6, r2 (by omega), d6, w6, pn_bd, m7, r6 (by omega), d7]
  obtain ⟨n, hn⟩ : ∃ n, F = n + 7 := ⟨F - 7, by omega⟩
  have turn : ∀ (m k A : Nat) (z : Int32 × Int32 × Int32 × Int32 × Int32 × Int32 × Int32 × Int32) (b : Nat → Int32), k < 6 → A < 2 ^ 63 → m_X2_unpack_L85 F (m + 1) (lN A) (nI k) z b = m_X2_unpack_L85 F m (lN (A / 32)) (nI (k + 1)) z (upd b k (nI (A % 32))) := fun m k A z b hk hlt => by
    rw [u_X2_unpack_L85, if_neg (show ¬ (6 : Int32) ≤ nI k from nI_ge (b := 6) hk (by omega)), w5, pn_bd, pn_ck hk (by omega), r5 (by omega), nI_clamp (by omega), nI_1]
  obtain ⟨x0, y0⟩ := mdm (a := (((s 13 * 32 + s 12) * 32 + s 11) * 32 + s 10) * 32 + s 9) (b := s 8) (p := 32) a0
  obtain ⟨x1, y1⟩ := mdm (a := ((s 13 * 32 + s 12) * 32 + s 11) * 32 + s 10) (b := s 9) (p := 32) a1
  obtain ⟨x2, y2⟩ := mdm (a := (s 13 * 32 + s 12) * 32 + s 11) (b := s 10) (p := 32) a2
  obtain ⟨x3, y3⟩ := mdm (a := s 13 * 32 + s 12) (b := s 11) (p := 32) a3
  obtain ⟨x4, y4⟩ := mdm (a := s 13) (b := s 12) (p := 32) a4
  have x5 : s 13 % 32 = s 13 := Nat.mod_eq_of_lt a5
  refine ⟨(nI (5 * s 0 + s 1), nI (s 2), nI (s 3), nI (5 * s 4 + s 5), nI (s 6), nI (s 7), zM.2.2.2.2.2.2.1, zM.2.2.2.2.2.2.2), upd (upd (upd (upd (upd (upd ag 0 (nI (s 8))) 1 (nI (s 9))) 2 (nI (s 10))) 3 (nI (s 11))) 4 (nI (s 12))) 5 (nI (s 13)), ?_, ⟨_, _, rfl⟩, ?_⟩
  · show m_X2_unpack_L85 F F (lN (pkA s)) (nI 0) (nI (5 * s 0 + s 1), nI (s 2), nI (s 3), nI (5 * s 4 + s 5), nI (s 6), nI (s 7), zM.2.2.2.2.2.2.1, zM.2.2.2.2.2.2.2) ag = some ((nI (5 * s 0 + s 1), nI (s 2), nI (s 3), nI (5 * s 4 + s 5), nI (s 6), nI (s 7), zM.2.2.2.2.2.2.1, zM.2.2.2.2.2.2.2), upd (upd (upd (upd (upd (upd ag 0 (nI (s 8))) 1 (nI (s 9))) 2 (nI (s 10))) 3 (nI (s 11))) 4 (nI (s 12))) 5 (nI (s 13)))
    unfold pkA
    have eF : m_X2_unpack_L85 F F = m_X2_unpack_L85 F (n + 7) := by rw [← hn]
    rw [eF, turn (n + 6) 0 _ _ _ (by omega) (by omega), x0, y0, turn (n + 5) 1 _ _ _ (by omega) (by omega), x1, y1, turn (n + 4) 2 _ _ _ (by omega) (by omega), x2, y2, turn (n + 3) 3 _ _ _ (by omega) (by omega), x3, y3, turn (n + 2) 4 _ _ _ (by omega) (by omega), x4, y4, turn (n + 1) 5 _ _ _ (by omega) (by omega), x5, u_X2_unpack_L85, if_pos (show (6 : Int32) ≤ nI (5 + 1) by decide)]
  · intro g hg
    match g, hg with
    | 0, _ => rfl
    | 1, _ => rfl
    | 2, _ => rfl
    | 3, _ => rfl
    | 4, _ => rfl
    | 5, _ => rfl
