/-! the least days: numbers n, or none (inf) -/
def dl (inf : Nat) (o : Option Nat) : Int32 := match o with
  | none => nI inf
  | some n => nI n
/-- one road tried -/
def rlx (w : Nat → Nat → Nat) (a b : Nat) (d : Nat → Option Nat) : Nat → Option Nat := fun c => if c = b then (if 0 < w a b then (match d a, d b with
  | some x, some y => if x + w a b < y then some (x + w a b) else some y
  | some x, none => some (x + w a b)
  | none, y => y) else d b) else d c
def rowN (w : Nat → Nat → Nat) (a : Nat) (d : Nat → Option Nat) : Nat → (Nat → Option Nat)
  | 0 => d
  | b + 1 => rlx w a b (rowN w a d b)
def rndN (w : Nat → Nat → Nat) (d : Nat → Option Nat) : Nat → (Nat → Option Nat)
  | 0 => d
  | a + 1 => rowN w a (rndN w d a) 6
def allN (w : Nat → Nat → Nat) (s : Nat) : Nat → (Nat → Option Nat)
  | 0 => fun c => if c = s then some 0 else none
  | k + 1 => rndN w (allN w s k) 6
def bndO (m : Nat) (d : Nat → Option Nat) : Prop := ∀ c x, d c = some x → x ≤ m
/-- no number above 30 for each step: a bound by hand -/
theorem rlx_bnd {w : Nat → Nat → Nat} {a b m : Nat} {d : Nat → Option Nat} (hw : w a b ≤ 30) (h : bndO m d) : bndO (m + 30) (rlx w a b d) := by
  intro c x hx
  unfold rlx at hx
  by_cases hc : c = b
  · rw [if_pos hc] at hx
    by_cases hp : 0 < w a b
    · rw [if_pos hp] at hx
      cases ha : d a with
      | none =>
        rw [ha] at hx
        cases hb : d b with
        | none => rw [hb] at hx; cases hx
        | some y => rw [hb] at hx; cases hx; have := h b _ hb; omega
      | some u =>
        have hu := h a u ha
        rw [ha] at hx
        cases hb : d b with
        | none => rw [hb] at hx; cases hx; omega
        | some y =>
          have hy := h b y hb
          rw [hb] at hx
          dsimp only at hx
          by_cases q : u + w a b < y
          · rw [if_pos q] at hx; cases hx; omega
          · rw [if_neg q] at hx; cases hx; omega
    · rw [if_neg hp] at hx
      have := h b x hx
      omega
  · rw [if_neg hc] at hx
    have := h c x hx
    omega
theorem rowN_bnd {w : Nat → Nat → Nat} {a m : Nat} {d : Nat → Option Nat} (ha : a < 6) (hw : ∀ a b, a < 6 → b < 6 → w a b ≤ 30) (h : bndO m d) : ∀ b, b ≤ 6 → bndO (m + 30 * b) (rowN w a d b)
  | 0, _ => h
  | b + 1, hb => by
    have := rlx_bnd (hw a b ha (by omega)) (rowN_bnd ha hw h b (by omega))
    rw [rowN, show m + 30 * (b + 1) = m + 30 * b + 30 by omega]
    exact this
theorem rndN_bnd {w : Nat → Nat → Nat} {m : Nat} {d : Nat → Option Nat} (hw : ∀ a b, a < 6 → b < 6 → w a b ≤ 30) (h : bndO m d) : ∀ a, a ≤ 6 → bndO (m + 180 * a) (rndN w d a)
  | 0, _ => h
  | a + 1, ha => by
    have := rowN_bnd (a := a) (by omega) hw (rndN_bnd hw h a (by omega)) 6 (by omega)
    rw [rndN, show m + 180 * (a + 1) = m + 180 * a + 30 * 6 by omega]
    exact this
theorem allN_bnd {w : Nat → Nat → Nat} {s : Nat} (hw : ∀ a b, a < 6 → b < 6 → w a b ≤ 30) : ∀ k, bndO (1080 * k) (allN w s k)
  | 0 => by
    intro c x hx
    unfold allN at hx
    by_cases hc : c = s
    · rw [if_pos hc] at hx; cases hx; omega
    · rw [if_neg hc] at hx; cases hx
  | k + 1 => by
    have := rndN_bnd hw (allN_bnd (s := s) hw k) 6 (by omega)
    rw [allN, show 1080 * (k + 1) = 1080 * k + 180 * 6 by omega]
    exact this
/-- the step of both, as numbers -/
theorem rlx_v {w : Nat → Nat → Nat} {a b inf : Nat} {d : Nat → Option Nat} {m : Nat} (h : bndO m d) (hm : m + 30 < inf) (hw : w a b ≤ 30) (hi : inf ≤ 1000000) (hp : 0 < w a b) :
    (if dl inf (d a) + nI (w a b) < dl inf (d b) then dl inf (d a) + nI (w a b) else dl inf (d b)) = dl inf (rlx w a b d b) ∧ (if dl inf (d b) < dl inf (d a) + nI (w a b) then dl inf (d b) else dl inf (d a) + nI (w a b)) = dl inf (rlx w a b d b) := by
  unfold rlx
  rw [if_pos rfl, if_pos hp]
  cases ha : d a with
  | none =>
    cases hb : d b with
    | none =>
      show (if nI inf + nI (w a b) < nI inf then _ else nI inf) = nI inf ∧ (if nI inf < nI inf + nI (w a b) then nI inf else _) = nI inf
      rw [nI_add, if_neg (nI_nlt (by omega) (by omega)), if_pos (nI_lt (by omega) (by omega))]
      exact ⟨rfl, rfl⟩
    | some y =>
      have hy := h b y hb
      show (if nI inf + nI (w a b) < nI y then _ else nI y) = nI y ∧ (if nI y < nI inf + nI (w a b) then nI y else _) = nI y
      rw [nI_add, if_neg (nI_nlt (by omega) (by omega)), if_pos (nI_lt (by omega) (by omega))]
      exact ⟨rfl, rfl⟩
  | some x =>
    have hx := h a x ha
    cases hb : d b with
    | none =>
      show (if nI x + nI (w a b) < nI inf then nI x + nI (w a b) else _) = nI (x + w a b) ∧ (if nI inf < nI x + nI (w a b) then _ else nI x + nI (w a b)) = nI (x + w a b)
      rw [nI_add, if_pos (nI_lt (by omega) (by omega)), if_neg (nI_nlt (by omega) (by omega))]
      exact ⟨rfl, rfl⟩
    | some y =>
      have hy := h b y hb
      show (if nI x + nI (w a b) < nI y then nI x + nI (w a b) else nI y) = dl inf (if x + w a b < y then some (x + w a b) else some y) ∧ (if nI y < nI x + nI (w a b) then nI y else nI x + nI (w a b)) = dl inf (if x + w a b < y then some (x + w a b) else some y)
      rw [nI_add]
      by_cases q : x + w a b < y
      · rw [if_pos (nI_lt q (by omega)), if_neg (nI_nlt (by omega) (by omega)), if_pos q]
        exact ⟨rfl, rfl⟩
      · rw [if_neg (nI_nlt (by omega) (by omega)), if_neg q]
        refine ⟨rfl, ?_⟩
        by_cases q2 : y < x + w a b
        · rw [if_pos (nI_lt q2 (by omega))]; rfl
        · rw [if_neg (nI_nlt (by omega) (by omega)), show x + w a b = y by omega]; rfl
theorem rlx_o {w : Nat → Nat → Nat} {a b c : Nat} {d : Nat → Option Nat} (h : c ≠ b) : rlx w a b d c = d c := if_neg h
theorem rlx_0 {w : Nat → Nat → Nat} {a b : Nat} {d : Nat → Option Nat} (h : ¬ 0 < w a b) : rlx w a b d b = d b := by
  unfold rlx
  rw [if_pos rfl, if_neg h]
