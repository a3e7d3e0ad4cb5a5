/-! the machine as numbers: X the crossing, s (14 numbers) a state -/
def nmax (f : Nat → Nat) : Nat → Nat
  | 0 => 0
  | n + 1 => if nmax f n < f n then f n else nmax f n
def nex (c : Nat → Bool) : Nat → Bool
  | 0 => false
  | n + 1 => nex c n || c n
theorem nex_true {c : Nat → Bool} : ∀ {n : Nat}, nex c n = true ↔ ∃ k, k < n ∧ c k = true := by
  intro n
  induction n with
  | zero => simp [nex]
  | succ n ih =>
    simp only [nex, Bool.or_eq_true, ih]
    constructor
    · rintro (⟨k, h1, h2⟩ | h)
      · exact ⟨k, by omega, h2⟩
      · exact ⟨n, by omega, h⟩
    · rintro ⟨k, h1, h2⟩
      by_cases h : k = n
      · exact Or.inr (h ▸ h2)
      · exact Or.inl ⟨k, by omega, h2⟩
theorem nex_congr {c d : Nat → Bool} {n : Nat} (h : ∀ k, k < n → c k = d k) : nex c n = nex d n := by
  induction n with
  | zero => rfl
  | succ n ih => simp only [nex]; rw [ih (fun k hk => h k (by omega)), h n (by omega)]
theorem nmax_congr {c d : Nat → Nat} {n : Nat} (h : ∀ k, k < n → c k = d k) : nmax c n = nmax d n := by
  induction n with
  | zero => rfl
  | succ n ih => simp only [nmax]; rw [ih (fun k hk => h k (by omega)), h n (by omega)]
theorem nmax_le {c : Nat → Nat} {n m : Nat} (h : ∀ k, k < n → c k ≤ m) : nmax c n ≤ m := by
  induction n with
  | zero => exact Nat.zero_le _
  | succ n ih =>
    have h1 := ih (fun k hk => h k (by omega))
    have h2 := h n (by omega)
    simp only [nmax]; split <;> omega
/-- the first number from b on for which c holds, of d; b + d if there is none -/
def nby (c : Nat → Bool) : Nat → Nat → Nat
  | 0, b => b
  | d + 1, b => if c b then b else nby c d (b + 1)
def sU (s : Nat → Nat) (k v : Nat) : Nat → Nat := fun j => if j = k then v else s j
def sM (X : Nat → Nat → Nat) (p f : Nat) : Nat := X 5 (5 * p + f)
def sLit (X : Nat → Nat → Nat) (s : Nat → Nat) : Nat := if s 3 = 0 then sM X (s 0) (s 1) else sM X (s 0) (s 1) &&& sM X (s 4) (s 5)
def sHear (X : Nat → Nat → Nat) (e : Nat) (s : Nat → Nat) : Nat → Nat :=
  if e = 0 then s else if e ≤ X 8 0 then (if (sLit X s).testBit (e - 1) then s else sU s 7 (s 7 ||| 2 ^ (e - 1))) else sU s 6 (e - 1 - X 8 0)
def sUp (lit g v : Nat) : Nat := if lit.testBit g then (if v < 31 then v + 1 else 31) else (if v < 15 then v + 1 else 15)
def sGrow (X : Nat → Nat → Nat) (s : Nat → Nat) : Nat → Nat := fun j => if 8 ≤ j ∧ j < 8 + X 8 0 then sUp (sLit X s) (j - 8) (s j) else s j
def sEnter (X : Nat → Nat → Nat) (p f : Nat) (s : Nat → Nat) : Nat → Nat := fun j =>
  if j = 0 then p else if j = 1 then f else if j < 6 then 0 else if j = 7 then andn (s 7) (sM X p f) else if 8 ≤ j ∧ j < 8 + X 8 0 ∧ (sM X p f).testBit (j - 8) = true ∧ (sM X (s 0) (s 1)).testBit (j - 8) = false then 0 else s j
def sZero (X : Nat → Nat → Nat) (p f : Nat) (s : Nat → Nat) : Nat → Nat := fun j =>
  if 8 ≤ j ∧ j < 8 + X 8 0 ∧ (sM X (s 0) (s 1)).testBit (j - 8) = true ∧ (sM X p f).testBit (j - 8) = false then 0 else s j
def sClr (X : Nat → Nat → Nat) (o n : Nat) : Nat := nmax (fun a => if o.testBit a = true ∧ n.testBit a = false then nmax (fun b => if n.testBit b = true ∧ o.testBit b = false then X 1 (6 * a + b) else 0) (X 8 0) else 0) (X 8 0)
def sLeave (X : Nat → Nat → Nat) (p f : Nat) (s : Nat → Nat) : Nat → Nat :=
  if sClr X (sM X (s 0) (s 1)) (sM X p f) = 0 then sEnter X p f (sZero X p f s) else sU (sU (sU (sZero X p f s) 3 (sClr X (sM X (s 0) (s 1)) (sM X p f))) 4 p) 5 f
def sAsk (X : Nat → Nat → Nat) (s : Nat → Nat) : Bool := s 6 != s 0 || andn (s 7) (sM X (s 0) (s 1)) != 0
def sOver (X : Nat → Nat → Nat) (s : Nat → Nat) : Bool := decide (X 7 (5 * s 0 + s 1) ≤ s 2) || (sAsk X s && decide (X 6 (5 * s 0 + s 1) ≤ s 2))
def sNb (X : Nat → Nat → Nat) (p f w : Nat) : Nat := nby (fun b => (sM X p ((f + b) % X 4 p) &&& w) != 0) (X 4 p - 1) 1
def sNf (X : Nat → Nat → Nat) (p f w : Nat) : Nat := if sNb X p f w < X 4 p then (f + sNb X p f w) % X 4 p else (f + 1) % X 4 p
def sNxF (X : Nat → Nat → Nat) (s : Nat → Nat) : Nat := if s 6 = s 0 then sNf X (s 0) (s 1) (s 7) else 0
def sRun (X : Nat → Nat → Nat) (s : Nat → Nat) : Nat → Nat :=
  if sOver X s then (if s 6 = s 0 ∧ sNxF X s = s 1 then s else sLeave X (s 6) (sNxF X s) s) else s
def sTick (X : Nat → Nat → Nat) (s : Nat → Nat) : Nat → Nat :=
  if s 3 = 0 then sRun X (sU s 2 (if s 2 < 31 then s 2 + 1 else 31)) else if s 3 = 1 then sEnter X (s 4) (s 5) s else sU s 3 (s 3 - 1)
def sGo (X : Nat → Nat → Nat) (e : Nat) (s : Nat → Nat) : Nat → Nat := sTick X (sGrow X (sHear X e s))
def sF1 (X : Nat → Nat → Nat) (a : Nat) : Bool := nex (fun g => nex (fun h => X 0 (6 * g + h) == 1 && a.testBit g && a.testBit h) (X 8 0)) (X 8 0)
def sF2 (X : Nat → Nat → Nat) (b a : Nat) (s : Nat → Nat) : Bool := nex (fun g => a.testBit g && !b.testBit g && nex (fun h => X 0 (6 * h + g) == 1 && !a.testBit h && decide (s (8 + h) < X 1 (6 * h + g))) (X 8 0)) (X 8 0)
def sF3 (X : Nat → Nat → Nat) (b a : Nat) (k : Nat → Nat) : Bool := nex (fun g => b.testBit g && !a.testBit g && decide (k (8 + g) < X 2 g)) (X 8 0)
def sF4 (X : Nat → Nat → Nat) (a : Nat) (s : Nat → Nat) : Bool := nex (fun g => a.testBit g && decide (X 3 g < s (8 + g)) && nex (fun h => X 0 (6 * g + h) == 1 && (s 7).testBit h) (X 8 0)) (X 8 0)
/-- the fault: b what was shown, k what the ages had grown to, s the state behind -/
def sFl (X : Nat → Nat → Nat) (b : Nat) (k s : Nat → Nat) : Nat :=
  if sF1 X (sLit X s) then 1 else if sF2 X b (sLit X s) s then 2 else if sF3 X b (sLit X s) k then 3 else if sF4 X (sLit X s) s then 4 else 0
def sFault (X : Nat → Nat → Nat) (e : Nat) (s : Nat → Nat) : Nat := sFl X (sLit X s) (sGrow X (sHear X e s)) (sGo X e s)
/-- a crossing that there can be -/
def xG (X : Nat → Nat → Nat) : Prop := 1 ≤ X 8 0 ∧ X 8 0 ≤ 6 ∧ X 8 1 ≤ 3 ∧ (∀ i, i < 36 → X 0 i ≤ 1 ∧ X 1 i ≤ 15 ∧ (0 < X 1 i → X 0 i = 1)) ∧ (∀ a b, a < 6 → b < 6 → X 0 (6 * a + b) = X 0 (6 * b + a)) ∧ (∀ g, g < 6 → X 2 g ≤ 15 ∧ X 3 g ≤ 31) ∧
  (∀ p, p < X 8 1 → 1 ≤ X 4 p ∧ X 4 p ≤ 5 ∧ ∀ f, f < X 4 p → X 5 (5 * p + f) < 2 ^ X 8 0 ∧ X 6 (5 * p + f) ≤ 15 ∧ X 7 (5 * p + f) ≤ 31)
/-- a state that there can be -/
def sV (X : Nat → Nat → Nat) (s : Nat → Nat) : Prop := (s 0 < X 8 1 ∧ s 1 < X 4 (s 0)) ∧ s 2 ≤ 31 ∧ s 3 ≤ 15 ∧ (s 4 < X 8 1 ∧ s 5 < X 4 (s 4)) ∧ s 6 < X 8 1 ∧ s 7 < 2 ^ X 8 0 ∧ (∀ g, g < 6 → s (8 + g) ≤ 31) ∧ (∀ g, X 8 0 ≤ g → s (8 + g) = 0) ∧ (s 3 = 0 → s 4 = 0 ∧ s 5 = 0 ∧ s 7 &&& sM X (s 0) (s 1) = 0)
