/-! what the mirrors are made of: a check of an index, of a divisor, of a truth value; a call; fuel -/
def gk_F : Nat := 6000
def gk_ck {α : Type} (i : Int32) (n : Nat) (k : Option α) : Option α := if i < 0 ∨ n ≤ i.toNatClampNeg then none else k
theorem gk_ck_s {α : Type} {i : Int32} {n : Nat} {k : Option α} {r : α} (h : gk_ck i n k = some r) : vp_in i n ∧ k = some r := by
  unfold gk_ck at h
  by_cases c : i < 0 ∨ n ≤ i.toNatClampNeg
  · rw [if_pos c] at h
    exact nomatch h
  · rw [if_neg c] at h
    exact ⟨c, h⟩
theorem gk_ck_in {α : Type} {i : Int32} {n : Nat} (k : Option α) (h : vp_in i n) : gk_ck i n k = k := if_neg h
def gk_dz {α : Type} (y : Int32) (k : Option α) : Option α := if y = 0 then none else k
theorem gk_dz_s {α : Type} {y : Int32} {k : Option α} {r : α} (h : gk_dz y k = some r) : ¬ y = 0 ∧ k = some r := by
  unfold gk_dz at h
  by_cases c : y = 0
  · rw [if_pos c] at h
    exact nomatch h
  · rw [if_neg c] at h
    exact ⟨c, h⟩
def gk_dzL {α : Type} (y : Int64) (k : Option α) : Option α := if y = 0 then none else k
theorem gk_dzL_s {α : Type} {y : Int64} {k : Option α} {r : α} (h : gk_dzL y k = some r) : ¬ y = 0 ∧ k = some r := by
  unfold gk_dzL at h
  by_cases c : y = 0
  · rw [if_pos c] at h
    exact nomatch h
  · rw [if_neg c] at h
    exact ⟨c, h⟩
def gk_bz {α : Type} (y : Int32) (k : Option α) : Option α := if y = 0 ∨ y = 1 then k else none
theorem gk_bz_s {α : Type} {y : Int32} {k : Option α} {r : α} (h : gk_bz y k = some r) : (y = 0 ∨ y = 1) ∧ k = some r := by
  unfold gk_bz at h
  by_cases c : y = 0 ∨ y = 1
  · rw [if_pos c] at h
    exact ⟨c, h⟩
  · rw [if_neg c] at h
    exact nomatch h
theorem gk_bz_n {y : Int32} (h : y = 0 ∨ y = 1) : narrow .boolean (.int y) = .int y := by
  rcases h with rfl | rfl <;> rfl
theorem gk_bz_f {y : Int32} (h : y = 0 ∨ y = 1) : fits .boolean (.int y) = true := by
  rcases h with rfl | rfl <;> rfl
def gk_bd {α β : Type} (x : Option α) (k : α → Option β) : Option β := match x with
  | none => none
  | some a => k a
theorem gk_bd_s {α β : Type} {x : Option α} {k : α → Option β} {r : β} (h : gk_bd x k = some r) : ∃ a, x = some a ∧ k a = some r := by
  cases x with
  | none => exact nomatch h
  | some a => exact ⟨a, rfl, h⟩
theorem gk_mt {c : Prop} [Decidable c] {α : Type} {a b : Option α} {r : α} (hc : c) (h : (if c then a else b) = some r) : a = some r := by
  rw [if_pos hc] at h
  exact h
theorem gk_mf {c : Prop} [Decidable c] {α : Type} {a b : Option α} {r : α} (hc : ¬ c) (h : (if c then a else b) = some r) : b = some r := by
  rw [if_neg hc] at h
  exact h
theorem gk_ne {x v : Int32} {k : Int} (h : ¬ x = v) (hv : v.toInt = k) : ¬ x.toInt = k := fun e => h (Int32.toInt_inj.mp (e.trans hv.symm))
