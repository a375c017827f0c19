/-! stories: the search, as numbers -/
/-- a story so far: its price, its unkind ones, its kinds -/
def btr (s : Option (Nat × Nat × (Nat → Nat))) (c : Nat × Nat × (Nat → Nat)) : Option (Nat × Nat × (Nat → Nat)) := match s with
  | none => some c
  | some b => if c.1 < b.1 ∨ (c.1 = b.1 ∧ c.2.1 < b.2.1) then some c else some b
def ukN (j : Nat) : Nat := if 6 ≤ j then 1 else 0
/-- price, unkind ones and kinds of the cheapest from place k on -/
def mP (c : Nat → Nat → Option Nat) (b : Nat → Nat) (n : Nat) : Nat → Nat
  | 0 => 0
  | m + 1 => ((c (n - (m + 1)) (b (n - (m + 1)))).getD 0) + mP c b n m
def mU (b : Nat → Nat) (n : Nat) : Nat → Nat
  | 0 => 0
  | m + 1 => ukN (b (n - (m + 1))) + mU b n m
/-- what each place's cheapest kind is -/
def Cheap (c : Nat → Nat → Option Nat) (b : Nat → Nat) (n : Nat) : Prop := ∀ k, k < n → 1 ≤ b k ∧ b k ≤ 7 ∧ ∃ p, c k (b k) = some p ∧ ∀ j q, 1 ≤ j → j ≤ 7 → c k j = some q → (p < q ∨ (p = q ∧ b k ≤ j)) ∧ ukN (b k) ≤ ukN j
theorem btr_none (c : Nat × Nat × (Nat → Nat)) : btr none c = some c := rfl
/-- a worse one ahead changes nothing -/
theorem btr_2 (s : Option (Nat × Nat × (Nat → Nat))) (x y : Nat × Nat × (Nat → Nat)) (h : y.1 < x.1) : btr (btr s x) y = btr s y := by
  cases s with
  | none =>
    show (if y.1 < x.1 ∨ (y.1 = x.1 ∧ y.2.1 < x.2.1) then some y else some x) = some y
    rw [if_pos (Or.inl h)]
  | some b =>
    show btr (if x.1 < b.1 ∨ (x.1 = b.1 ∧ x.2.1 < b.2.1) then some x else some b) y = (if y.1 < b.1 ∨ (y.1 = b.1 ∧ y.2.1 < b.2.1) then some y else some b)
    by_cases hx : x.1 < b.1 ∨ (x.1 = b.1 ∧ x.2.1 < b.2.1)
    · rw [if_pos hx]
      show (if y.1 < x.1 ∨ (y.1 = x.1 ∧ y.2.1 < x.2.1) then some y else some x) = _
      rw [if_pos (Or.inl h), if_pos (Or.inl (by omega))]
    · rw [if_neg hx]
      rfl
/-- one that isn't better behind changes nothing -/
theorem btr_3 (s : Option (Nat × Nat × (Nat → Nat))) (x y : Nat × Nat × (Nat → Nat)) (h : x.1 < y.1 ∨ (x.1 = y.1 ∧ x.2.1 ≤ y.2.1)) : btr (btr s x) y = btr s x := by
  cases s with
  | none =>
    show (if y.1 < x.1 ∨ (y.1 = x.1 ∧ y.2.1 < x.2.1) then some y else some x) = some x
    rw [if_neg (by omega)]
  | some b =>
    show btr (if x.1 < b.1 ∨ (x.1 = b.1 ∧ x.2.1 < b.2.1) then some x else some b) y = (if x.1 < b.1 ∨ (x.1 = b.1 ∧ x.2.1 < b.2.1) then some x else some b)
    by_cases hx : x.1 < b.1 ∨ (x.1 = b.1 ∧ x.2.1 < b.2.1)
    · rw [if_pos hx]
      show (if y.1 < x.1 ∨ (y.1 = x.1 ∧ y.2.1 < x.2.1) then some y else some x) = some x
      rw [if_neg (by omega)]
    · rw [if_neg hx]
      show (if y.1 < b.1 ∨ (y.1 = b.1 ∧ y.2.1 < b.2.1) then some y else some b) = some b
      rw [if_neg (by omega)]
