/-! PURE ROWS: the programs' words -/
theorem vv_d {α β : Type} (e : α) (k : α → Option β) : vv e k = k e := rfl
theorem mm_d {β : Type} (M : Mem) (k : Mem → Option β) : mm M k = k M := rfl
theorem jn_d {α β : Type} (r : α) (b : α → Option β) : jn r b = b r := rfl
theorem bd_d {α β : Type} (r : α) (M : Mem) (k : α → Mem → Option β) : bd (some (r, M)) k = k r M := rfl
theorem bd_i {α β : Type} (p : Prop) [Decidable p] (x y : Option (α × Mem)) (k : α → Mem → Option β) : bd (if p then x else y) k = if p then bd x k else bd y k := by split <;> rfl
theorem ld_n {β : Type} {M : Mem} {a : Nat} {i : Int32} {n : Nat} {k : Int32 → Option β} (j : Nat) (hi : i = nI j) (h : j < n) (hn : n < 2 ^ 31) : ld M a i n k = k (M a j) := by
  subst hi
  have h2 : vp_in (nI j) n := vp_in_nI h hn
  unfold ld
  rw [if_neg h2, nI_clamp (by omega)]
theorem st_n {β : Type} {M : Mem} {a : Nat} {i : Int32} {n : Nat} {v : Int32} {k : Mem → Option β} (j : Nat) (hi : i = nI j) (h : j < n) (hn : n < 2 ^ 31) : st M a i n v k = k (up M a j v) := by
  subst hi
  have h2 : vp_in (nI j) n := vp_in_nI h hn
  unfold st
  rw [if_neg h2, nI_clamp (by omega)]
theorem dv_n {β : Type} {y : Int32} {x : Option β} (h : ¬ y = 0) : dv y x = x := if_neg h
theorem lit_nI (n : Nat) : (OfNat.ofNat n : Int32) = nI n := rfl
theorem up_same (M : Mem) (a k : Nat) (v : Int32) : up M a k v a k = v := by simp [up, upd]
theorem up_k (M : Mem) (a k j : Nat) (v : Int32) (h : j ≠ k) : up M a k v a j = M a j := by simp [up, upd, h]
theorem up_a (M : Mem) (a k b j : Nat) (v : Int32) (h : b ≠ a) : up M a k v b j = M b j := by simp [up, h]
theorem up_i (M : Mem) (a k b j : Nat) (v : Int32) : up M a k v b j = if b = a then (if j = k then v else M b j) else M b j := by
  by_cases h : b = a
  · subst h; simp [up, upd]
  · simp [up, h]
theorem nlt {a b : Nat} (ha : a < 2 ^ 31) (hb : b < 2 ^ 31) : (nI a < nI b) = (a < b) := propext (nI_ltI ha hb)
theorem nle {a b : Nat} (ha : a < 2 ^ 31) (hb : b < 2 ^ 31) : (nI a ≤ nI b) = (a ≤ b) := propext (nI_leI ha hb)
theorem neq {a b : Nat} (ha : a < 2 ^ 31) (hb : b < 2 ^ 31) : (nI a = nI b) = (a = b) := propext (nI_eq ha hb)
theorem nsub {a b : Nat} (h : b ≤ a) : nI a - nI b = nI (a - b) := pk_sub h
theorem lgc_lt (a b : Int64) : (lg_cmp a b < 0) = (a < b) := by
  unfold lg_cmp
  apply propext
  constructor
  · intro h
    by_cases g1 : a > b
    · rw [if_pos g1] at h
      exact absurd h (by decide)
    · rw [if_neg g1] at h
      by_cases g2 : a = b
      · rw [if_pos g2] at h
        exact absurd h (by decide)
      · have g3 : ¬ b.toInt < a.toInt := fun q => g1 (Int64.lt_iff_toInt_lt.mpr q)
        have g4 : ¬ a.toInt = b.toInt := fun q => g2 (Int64.toInt_inj.mp q)
        exact Int64.lt_iff_toInt_lt.mpr (by omega)
  · intro h
    have h1 : ¬ b < a := fun q => Int64.lt_asymm h q
    have h2 : ¬ a = b := fun q => by subst q; exact Int64.lt_irrefl h
    simp [h, h1, h2]
theorem lgc_gt (a b : Int64) : (0 < lg_cmp a b) = (b < a) := by
  unfold lg_cmp
  apply propext
  constructor
  · intro h
    split at h <;> first | assumption | (split at h <;> first | assumption | (exact absurd h (by decide))) | (exact absurd h (by decide))
  · intro h
    simp [h]
theorem i64_lt (a b : Int32) : (Int32.toInt64 a < Int32.toInt64 b) = (a < b) := propext (by rw [Int64.lt_iff_toInt_lt, Int32.lt_iff_toInt_lt, Int32.toInt_toInt64, Int32.toInt_toInt64])
/-- the model's isIn is the class's within -/
theorem s_isIn (a b c : Int32) (M : Mem) : f_X10_isIn (Int32.toInt64 a) (Int32.toInt64 b) (Int32.toInt64 c) M = f_X9_within a b c M := by
  unfold f_X10_isIn f_X9_within
  simp only [lgc_lt, lgc_gt, i64_lt]
def b2 (p : Prop) [Decidable p] : Int32 := if p then 1 else 0
theorem s_within (a b c : Int32) (M : Mem) : f_X9_within a b c M = some (b2 (b ≤ a ∧ a ≤ c), M) := by
  unfold f_X9_within b2
  by_cases h1 : a < b
  · rw [if_pos h1, if_neg (fun q => Int32.not_lt.mpr q.1 h1)]
  · rw [if_neg h1]
    by_cases h2 : c < a
    · rw [if_pos h2, if_neg (fun q => Int32.not_lt.mpr q.2 h2)]
    · rw [if_neg h2, if_pos ⟨Int32.not_lt.mp h1, Int32.not_lt.mp h2⟩]
theorem b2_0 (p : Prop) [Decidable p] : (b2 p = 0) = ¬ p := by unfold b2; split <;> simp_all
