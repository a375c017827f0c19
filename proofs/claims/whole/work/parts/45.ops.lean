/-! what a program leaves -/
def Res (Q : Int32 → Mem → Prop) (z : Option (Int32 × Mem)) : Prop := ∃ r M', z = some (r, M') ∧ Q r M'
theorem Res.mk {Q : Int32 → Mem → Prop} {r : Int32} {M : Mem} (h : Q r M) : Res Q (some (r, M)) := ⟨r, M, rfl, h⟩
theorem Res.imp {Q R : Int32 → Mem → Prop} {z : Option (Int32 × Mem)} (h : Res Q z) (i : ∀ r M, Q r M → R r M) : Res R z := by
  obtain ⟨r, M, e, q⟩ := h
  exact ⟨r, M, e, i r M q⟩
theorem Res.then {Q R : Int32 → Mem → Prop} {z : Option (Int32 × Mem)} {k : Int32 → Mem → Option (Int32 × Mem)} (h : Res Q z) (i : ∀ r M, Q r M → Res R (k r M)) : Res R (bd z k) := by
  obtain ⟨r, M, e, q⟩ := h
  rw [e]
  exact i r M q
theorem res0 {Q : Int32 → Mem → Prop} {B : (Mem → Option (Int32 × Mem)) → Mem → Option (Int32 × Mem)} {n : Nat} {M : Mem} (h : ∀ F, F = B → Res Q (it0 F n M)) : Res Q (it0 B n M) := h B rfl
theorem res1 {Q : Int32 → Mem → Prop} {A1 : Type} {B : (A1 → Mem → Option (Int32 × Mem)) → A1 → Mem → Option (Int32 × Mem)} {n : Nat} {x1 : A1} {M : Mem} (h : ∀ F, F = B → Res Q (it1 F n x1 M)) : Res Q (it1 B n x1 M) := h B rfl
theorem res2 {Q : Int32 → Mem → Prop} {A1 A2 : Type} {B : (A1 → A2 → Mem → Option (Int32 × Mem)) → A1 → A2 → Mem → Option (Int32 × Mem)} {n : Nat} {x1 : A1} {x2 : A2} {M : Mem} (h : ∀ F, F = B → Res Q (it2 F n x1 x2 M)) : Res Q (it2 B n x1 x2 M) := h B rfl
theorem res3 {Q : Int32 → Mem → Prop} {A1 A2 A3 : Type} {B : (A1 → A2 → A3 → Mem → Option (Int32 × Mem)) → A1 → A2 → A3 → Mem → Option (Int32 × Mem)} {n : Nat} {x1 : A1} {x2 : A2} {x3 : A3} {M : Mem} (h : ∀ F, F = B → Res Q (it3 F n x1 x2 x3 M)) : Res Q (it3 B n x1 x2 x3 M) := h B rfl
theorem ln_ix (a b : Nat) : nI a * 12 + nI b = nI (12 * a + b) := by
  rw [show nI a * 12 = nI (a * 12) from pk_mul a 12, nI_add, Nat.mul_comm]
/-! lines -/
theorem x_holder (o : Nat) (p : Int32) (M : Mem) (hl : ∀ l, l < 6 → ∃ k, k ≤ 12 ∧ M (grf G1 o 0) l = nI k) :
    Res (fun r M' => M' = M ∧ ((r = (-1000000005) ∧ ∀ l i, l < 6 → nI i < M (grf G1 o 0) l → i < 12 → M (grf G1 o 1) (12 * l + i) ≠ p) ∨ ∃ l, l < 6 ∧ r = nI l ∧ ∃ i, i < 12 ∧ nI i < M (grf G1 o 0) l ∧ M (grf G1 o 1) (12 * l + i) = p)) (f_X3_holder o p M) := by
  unfold f_X3_holder
  refine res1 (fun F hF => ?_)
  have key : ∀ n l, l ≤ 6 → 6 < l + n → (∀ l' i, l' < l → nI i < M (grf G1 o 0) l' → i < 12 → M (grf G1 o 1) (12 * l' + i) ≠ p) → Res (fun r M' => M' = M ∧ ((r = (-1000000005) ∧ ∀ l i, l < 6 → nI i < M (grf G1 o 0) l → i < 12 → M (grf G1 o 1) (12 * l + i) ≠ p) ∨ ∃ l, l < 6 ∧ r = nI l ∧ ∃ i, i < 12 ∧ nI i < M (grf G1 o 0) l ∧ M (grf G1 o 1) (12 * l + i) = p)) (it1 F n (nI l) M) := by
    intro n
    induction n with
    | zero => intro l h1 h2; omega
    | succ n ih =>
      intro l h1 h2 h3
      rw [it1_succ]
      generalize it1 F n = rc at ih ⊢
      rw [hF]
      dsimp only
      by_cases h6 : l = 6
      · subst h6
        rw [if_neg (by decide)]
        exact Res.mk ⟨rfl, Or.inl ⟨rfl, fun l i hl => h3 l i hl⟩⟩
      rw [if_pos (show nI (l) < 6 from nI_lt (a := l) (b := 6) (by omega) (by decide))]
      obtain ⟨k, hk, ek⟩ := hl l (by omega)
      refine res1 (fun E hE => ?_)
      have inner : ∀ m i, i ≤ k → k < i + m → (∀ j, j < i → M (grf G1 o 1) (12 * l + j) ≠ p) → Res (fun r M' => M' = M ∧ ((r = (-1000000005) ∧ ∀ l i, l < 6 → nI i < M (grf G1 o 0) l → i < 12 → M (grf G1 o 1) (12 * l + i) ≠ p) ∨ ∃ l, l < 6 ∧ r = nI l ∧ ∃ i, i < 12 ∧ nI i < M (grf G1 o 0) l ∧ M (grf G1 o 1) (12 * l + i) = p)) (it1 E m (nI i) M) := by
        intro m
        induction m with
        | zero => intro i g1 g2; omega
        | succ m ih2 =>
          intro i g1 g2 g3
          rw [it1_succ]
          generalize it1 E m = rd at ih2 ⊢
          rw [hE]
          simp only [vv_d]
          rw [ld_n l rfl (by omega) (by decide), ek]
          by_cases hi : i = k
          · subst hi
            rw [if_neg (show ¬ nI i < nI i from nI_nlt (Nat.le_refl _) (by omega)), nI_1]
            refine ih (l + 1) (by omega) (by omega) (fun l' j q1 q2 q3 => ?_)
            by_cases ql : l' = l
            · subst ql
              rw [ek] at q2
              exact g3 j ((nI_ltI (by omega) (by omega)).mp q2)
            · exact h3 l' j (by omega) q2 q3
          · rw [if_pos (show nI i < nI k from nI_lt (by omega) (by omega)), ld_n (12 * l + i) (ln_ix l i) (by omega) (by decide)]
            by_cases hp : M (grf G1 o 1) (12 * l + i) = p
            · rw [if_pos hp]
              exact Res.mk ⟨rfl, Or.inr ⟨l, by omega, rfl, i, by omega, by rw [ek]; exact nI_lt (by omega) (by omega), hp⟩⟩
            · rw [if_neg hp, nI_1]
              refine ih2 (i + 1) (by omega) (by omega) (fun j hj => ?_)
              by_cases qj : j = i
              · subst qj; exact hp
              · exact g3 j (by omega)
      exact inner fuel 0 (by omega) (by show k < 0 + 5000; omega) (fun j hj => absurd hj (by omega))
  exact key fuel 0 (by omega) (by show 6 < 0 + 5000; omega) (fun l' i hl' => absurd hl' (by omega))
theorem x_length (o l k : Nat) (M : Mem) (hl : l < 6) (e : M (grf G1 o 0) l = nI k) : f_X3_lengthOf o (nI l) M = some (nI k, M) := by
  unfold f_X3_lengthOf
  rw [if_neg (nI_pos (by omega)), if_pos (show nI (l) < 6 from nI_lt (a := l) (b := 6) (by omega) (by decide)), vv_d, ld_n l rfl (by omega) (by decide), e]
theorem x_at (o l k i : Nat) (M : Mem) (hl : l < 6) (e : M (grf G1 o 0) l = nI k) (hk : k ≤ 12) (hi : i < k) : f_X3_at o (nI l) (nI i) M = some (M (grf G1 o 1) (12 * l + i), M) := by
  unfold f_X3_at
  rw [if_neg (nI_pos (by omega)), x_length o l k M hl e, bd_d, if_pos (show nI i < nI k from nI_lt (by omega) (by omega)), vv_d, ld_n (12 * l + i) (ln_ix l i) (by omega) (by decide)]
theorem x_lastOf (o l k : Nat) (M : Mem) (hl : l < 6) (e : M (grf G1 o 0) l = nI k) (hk : k ≤ 12) : f_X3_lastOf o (nI l) M = some (if k = 0 then (-1000000005) else M (grf G1 o 1) (12 * l + (k - 1)), M) := by
  unfold f_X3_lastOf
  rw [x_length o l k M hl e, bd_d]
  cases k with
  | zero => rfl
  | succ k => rw [nI_pred, x_at o l (k + 1) k M hl e hk (by omega), bd_d, if_neg (by omega)]; rfl
