/-! loops that count: digit, even -/
def cnt (f : Nat → Int32) (d : Int32) : Nat → Nat
  | 0 => 0
  | n + 1 => cnt f d n + (if jr (f n) 10 = d then 1 else 0)
theorem it2_succ {A1 A2 β : Type} (B : (A1 → A2 → Mem → Option β) → A1 → A2 → Mem → Option β) (n : Nat) : it2 B (n + 1) = B (it2 B n) := rfl
theorem it1_succ {A1 β : Type} (B : (A1 → Mem → Option β) → A1 → Mem → Option β) (n : Nat) : it1 B (n + 1) = B (it1 B n) := rfl
theorem it3_succ {A1 A2 A3 β : Type} (B : (A1 → A2 → A3 → Mem → Option β) → A1 → A2 → A3 → Mem → Option β) (n : Nat) : it3 B (n + 1) = B (it3 B n) := rfl
theorem it0_succ {β : Type} (B : (Mem → Option β) → Mem → Option β) (n : Nat) : it0 B (n + 1) = B (it0 B n) := rfl
theorem x_withLast (nF : Nat) (d : Int32) (M : Mem) (h : M 2 2 = nI nF) (hn : nF ≤ 40) : f_X0_withLast 2 d M = some (nI (cnt (M 6) d nF), M) := by
  unfold f_X0_withLast
  simp only [vv_d, mm_d, jn_d, bd_d, bd_i, r1_0_0, r1_0_1, r1_0_3, r1_0_4, r1_0_6, r1_0_7, r1_1_0, r1_1_1, r1_1_2, r1_1_3, r1_1_4, r1_1_5, r1_1_9, r1_2_1, r1_2_3, r1_2_4, r1_2_5, r1_2_6, r1_2_7, r1_9_1, r1_9_2, r1_9_3, r1_9_4, r1_9_5, r1_9_6, r1_16_0, r1_16_1, r1_19_0, r1_19_2, r1_19_3, r1_19_4, r1_24_1, r1_24_2, r1_24_3, r1_24_5, r1_61_0, r1_61_6]
  generalize hB : (fun (rc3 : Int32 → Int32 → Mem → Option (Int32 × Mem)) (v1 v2 : Int32) (M : Mem) => if v2 < M 2 2 then ld M 6 v2 40 fun x6 => if jr x6 10 = d then rc3 (v1 + 1) (v2 + 1) M else rc3 v1 (v2 + 1) M else some (v1, M)) = B
  have key : ∀ n k, k ≤ nF → nF < k + n → it2 B n (nI (cnt (M 6) d k)) (nI k) M = some (nI (cnt (M 6) d nF), M) := by
    intro n
    induction n with
    | zero => intro k h1 h2; omega
    | succ n ih =>
      intro k h1 h2
      rw [it2_succ, ← hB]
      simp only [h]
      by_cases hk : k = nF
      · subst hk
        rw [if_neg (show ¬ nI k < nI k from nI_nlt (Nat.le_refl _) (by omega))]
      · rw [if_pos (show nI k < nI nF from nI_lt (by omega) (by omega)), ld_n k rfl (by omega) (by decide), hB]
        have ih2 := ih (k + 1) (by omega) (by omega)
        rw [cnt] at ih2
        by_cases hd : jr (M 6 k) 10 = d
        · rw [if_pos hd] at ih2 ⊢
          rw [nI_1, nI_1]
          exact ih2
        · rw [if_neg hd] at ih2 ⊢
          rw [nI_1]
          exact ih2
  exact key fuel 0 (by omega) (by show nF < 0 + 5000; omega)
theorem y_digitOf (nF : Nat) (d : Int32) (N : Mem) (vl : Nat → Int32) (h : N 1 1 = nI nF) (hn : nF ≤ 40) (hv : ∀ f, f < nF → N 1 (32 + 6 * f) = vl f) : f_X10_digitOf 0 d N = some (nI (cnt vl d nF), N) := by
  unfold f_X10_digitOf f_X10_figureAt
  simp only [vv_d, mm_d, jn_d, bd_d, bd_i, r2_0_0, r2_0_1, r2_0_2, r2_0_4, r2_0_5, r2_0_6, r2_0_7, r2_0_8, r2_0_9, r2_0_10, r2_0_11, r2_0_12, r2_0_24, r2_0_25, r2_0_28, r2_0_29, r2_0_30, r2_0_34, r2_0_35, r2_0_36, r2_0_38, ld_1]
  generalize hB : (fun (rc3 : Int32 → Int32 → Mem → Option (Int32 × Mem)) (v1 v2 : Int32) (M : Mem) => if v2 < M 1 1 then ld M 1 (30 + 6 * v2 + 2) 3510 fun x8 => if jr x8 10 = d then rc3 (v1 + 1) (v2 + 1) M else rc3 (v1 + 0) (v2 + 1) M else some (v1, M)) = B
  have key : ∀ n k, k ≤ nF → nF < k + n → it2 B n (nI (cnt vl d k)) (nI k) N = some (nI (cnt vl d nF), N) := by
    intro n
    induction n with
    | zero => intro k h1 h2; omega
    | succ n ih =>
      intro k h1 h2
      rw [it2_succ, ← hB]
      simp only [h]
      by_cases hk : k = nF
      · subst hk
        rw [if_neg (show ¬ nI k < nI k from nI_nlt (Nat.le_refl _) (by omega))]
      · rw [if_pos (show nI k < nI nF from nI_lt (by omega) (by omega)), ld_n (32 + 6 * k) (fx2 k) (by omega) (by decide), hB, hv k (by omega)]
        have ih2 := ih (k + 1) (by omega) (by omega)
        rw [cnt] at ih2
        by_cases hd : jr (vl k) 10 = d
        · rw [if_pos hd] at ih2 ⊢
          rw [nI_1, nI_1]
          exact ih2
        · rw [if_neg hd] at ih2 ⊢
          rw [nI_1, show nI (cnt vl d k) + 0 = nI (cnt vl d k + 0) from nI_add _ 0]
          exact ih2
  exact key fuel 0 (by omega) (by show nF < 0 + 5000; omega)
theorem op_digit : ∀ (p : Int32) (M N : Mem), Inv M N → ∃ r M' N', f_X9_digit 0 p M = some (r, M') ∧ f_X10_digit 0 p N = some (r, N') ∧ Inv M' N' := by
  intro p M N h
  obtain ⟨nT, nF, nX, nC, nE, nL, nS, hT, hF, hX, hL, hC, hR, hD, hN, hO, hZ⟩ := h.1
  obtain ⟨f1, f2, f3, f4⟩ := id hF
  unfold f_X9_digit f_X10_digit
  simp only [s_within, vv_d, mm_d, jn_d, bd_d, bd_i, r1_0_0, r1_0_1, r1_0_3, r1_0_4, r1_0_6, r1_0_7, r1_1_0, r1_1_1, r1_1_2, r1_1_3, r1_1_4, r1_1_5, r1_1_9, r1_2_1, r1_2_3, r1_2_4, r1_2_5, r1_2_6, r1_2_7, r1_9_1, r1_9_2, r1_9_3, r1_9_4, r1_9_5, r1_9_6, r1_16_0, r1_16_1, r1_19_0, r1_19_2, r1_19_3, r1_19_4, r1_24_1, r1_24_2, r1_24_3, r1_24_5, r1_61_0, r1_61_6, r2_0_0, r2_0_1, r2_0_2, r2_0_4, r2_0_5, r2_0_6, r2_0_7, r2_0_8, r2_0_9, r2_0_10, r2_0_11, r2_0_12, r2_0_24, r2_0_25, r2_0_28, r2_0_29, r2_0_30, r2_0_34, r2_0_35, r2_0_36, r2_0_38, if_b2, s_isInL p 0 9 0 9 N rfl rfl, x_withLast nF p M f1 f3, y_digitOf nF p N (M 6) f2 f3 (fun f hf => (f4 f hf).1.2.2.1)]
  by_cases hp : 0 ≤ p ∧ p ≤ 9
  · rw [if_pos hp, if_pos hp]
    exact ⟨_, M, N, rfl, rfl, h⟩
  · rw [if_neg hp, if_neg hp]
    exact ⟨_, M, N, rfl, rfl, h⟩
theorem op_even : ∀ (M N : Mem), Inv M N → ∃ r M' N', f_X9_even 0 M = some (r, M') ∧ f_X10_even 0 N = some (r, N') ∧ Inv M' N' := by
  intro M N h
  obtain ⟨nT, nF, nX, nC, nE, nL, nS, hT, hF, hX, hL, hC, hR, hD, hN, hO, hZ⟩ := h.1
  obtain ⟨f1, f2, f3, f4⟩ := id hF
  have f1 : M 2 2 = nI nF := f1
  unfold f_X9_even f_X10_even
  simp only [vv_d, mm_d, jn_d, bd_d, bd_i, r1_0_0, r1_0_1, r1_0_3, r1_0_4, r1_0_6, r1_0_7, r1_1_0, r1_1_1, r1_1_2, r1_1_3, r1_1_4, r1_1_5, r1_1_9, r1_2_1, r1_2_3, r1_2_4, r1_2_5, r1_2_6, r1_2_7, r1_9_1, r1_9_2, r1_9_3, r1_9_4, r1_9_5, r1_9_6, r1_16_0, r1_16_1, r1_19_0, r1_19_2, r1_19_3, r1_19_4, r1_24_1, r1_24_2, r1_24_3, r1_24_5, r1_61_0, r1_61_6, r2_0_0, r2_0_1, r2_0_2, r2_0_4, r2_0_5, r2_0_6, r2_0_7, r2_0_8, r2_0_9, r2_0_10, r2_0_11, r2_0_12, r2_0_24, r2_0_25, r2_0_28, r2_0_29, r2_0_30, r2_0_34, r2_0_35, r2_0_36, r2_0_38, ld_1]
  generalize hA : (fun (rc3 : Int32 → Int32 → Mem → Option (Int32 × Mem)) (v1 v2 : Int32) (M : Mem) => if v2 < 10 then bd (f_X0_withLast 2 v2 M) fun x6 M => rc3 (v1 + (10 * x6 - M 2 2) * (10 * x6 - M 2 2)) (v2 + 1) M else some (v1, M)) = A
  generalize hB : (fun (rc3 : Int32 → Int32 → Mem → Option (Int32 × Mem)) (v1 v2 : Int32) (M : Mem) => if v2 < 10 then bd (f_X10_digitOf 0 v2 M) fun x4 M => rc3 (v1 + (10 * x4 - M 1 1) * (10 * x4 - M 1 1)) (v2 + 1) M else some (v1, M)) = B
  have key : ∀ n d (v : Int32), d ≤ 10 → 10 < d + n → ∃ r, it2 A n v (nI d) M = some (r, M) ∧ it2 B n v (nI d) N = some (r, N) := by
    intro n
    induction n with
    | zero => intro d v h1 h2; omega
    | succ n ih =>
      intro d v h1 h2
      rw [it2_succ, it2_succ, ← hA, ← hB]
      simp only [x_withLast nF (nI d) M f1 f3, y_digitOf nF (nI d) N (M 6) f2 f3 (fun f hf => (f4 f hf).1.2.2.1), vv_d, mm_d, jn_d, bd_d, bd_i, f1, f2]
      by_cases hd : d = 10
      · subst hd
        exact ⟨v, rfl, rfl⟩
      · rw [if_pos (show nI (d) < 10 from nI_lt (a := d) (b := 10) (by omega) (by decide)), if_pos (show nI (d) < 10 from nI_lt (a := d) (b := 10) (by omega) (by decide)), hA, hB, nI_1]
        exact ih (d + 1) _ (by omega) (by omega)
  obtain ⟨r, e1, e2⟩ := key fuel 0 0 (by omega) (by show 10 < 0 + 5000; omega)
  exact ⟨r, M, N, e1, e2, h⟩
