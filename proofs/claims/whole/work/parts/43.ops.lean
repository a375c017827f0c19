theorem tx1 (t : Nat) : 500 + 200 * nI t + 1 = nI (501 + 200 * t) := by
  rw [tx0, show nI (500 + 200 * t) + 1 = nI (500 + 200 * t + 1) from nI_add _ 1, show 500 + 200 * t + 1 = 501 + 200 * t by omega]
theorem s_isText (p : Int32) (N : Mem) : f_X10_isText 0 p N = some (b2 (0 ≤ p ∧ p ≤ N 1 2 - 1), N) := by
  unfold f_X10_isText
  simp only [vv_d, mm_d, jn_d, bd_d, bd_i, r2_0_0, r2_0_1, r2_0_2, r2_0_4, r2_0_5, r2_0_6, r2_0_7, r2_0_8, r2_0_9, r2_0_10, r2_0_11, r2_0_12, r2_0_24, r2_0_25, r2_0_28, r2_0_29, r2_0_30, r2_0_34, r2_0_35, r2_0_36, r2_0_38, ld_2, s_isInL p 0 (Int32.toInt64 (N 1 2 - 1)) 0 (N 1 2 - 1) N rfl rfl]
theorem op_of : ∀ (p q : Int32) (M N : Mem), Inv M N → ∃ r M' N', f_X9_of 0 p q M = some (r, M') ∧ f_X10_of 0 p q N = some (r, N') ∧ Inv M' N' := by
  intro p q M N h
  obtain ⟨nT, nF, nX, nC, nE, nL, nS, hT, hF, hX, hL, hC, hR, hD, hN, hO, hZ⟩ := h.1
  obtain ⟨x1, x2, x3, x4⟩ := id hX
  have x1 : M 9 0 = nI nX := x1
  unfold f_X9_of f_X10_of f_X10_textAt
  simp only [s_within, s_isText, vv_d, mm_d, jn_d, bd_d, bd_i, r1_0_0, r1_0_1, r1_0_3, r1_0_4, r1_0_6, r1_0_7, r1_1_0, r1_1_1, r1_1_2, r1_1_3, r1_1_4, r1_1_5, r1_1_9, r1_2_1, r1_2_3, r1_2_4, r1_2_5, r1_2_6, r1_2_7, r1_9_1, r1_9_2, r1_9_3, r1_9_4, r1_9_5, r1_9_6, r1_16_0, r1_16_1, r1_19_0, r1_19_2, r1_19_3, r1_19_4, r1_24_1, r1_24_2, r1_24_3, r1_24_5, r1_61_0, r1_61_6, r2_0_0, r2_0_1, r2_0_2, r2_0_4, r2_0_5, r2_0_6, r2_0_7, r2_0_8, r2_0_9, r2_0_10, r2_0_11, r2_0_12, r2_0_24, r2_0_25, r2_0_28, r2_0_29, r2_0_30, r2_0_34, r2_0_35, r2_0_36, r2_0_38, if_b2, s_isInL q 0 2 0 2 N rfl rfl]
  simp only [x1, x2]
  by_cases hp : Rg p nX
  case neg =>
    rw [if_neg (fun z => hp ((rg_le (by omega)).mp z)), if_neg (fun z => hp ((rg_le (by omega)).mp z))]
    exact ⟨_, M, N, rfl, rfl, h⟩
  rw [if_pos ((rg_le (by omega)).mpr hp), if_pos ((rg_le (by omega)).mpr hp)]
  obtain ⟨t, ht, rfl⟩ := hp
  obtain ⟨a1, a2, -⟩ := x4 t ht
  rw [ld_n t rfl (by omega) (by decide), ld_n t rfl (by omega) (by decide), ld_n t rfl (by omega) (by decide), ld_n (500 + 200 * t) (tx0 t) (by omega) (by decide), ld_n (501 + 200 * t) (tx1 t) (by omega) (by decide), a2]
  by_cases hq : 0 ≤ q ∧ q ≤ 2
  case neg =>
    have q0 : ¬ q = 0 := fun z => hq (by rw [z]; decide)
    have q1 : ¬ q = 1 := fun z => hq (by rw [z]; decide)
    have q2 : ¬ q = 2 := fun z => hq (by rw [z]; decide)
    rw [if_neg hq, if_neg q0, if_neg q1, if_neg q2]
    exact ⟨_, M, N, rfl, rfl, h⟩
  rw [if_pos hq]
  rcases k_two hq with rfl | rfl | rfl
  · rw [if_pos rfl, if_pos rfl]
    rcases a1 with ⟨b1, ⟨T, hT', b2⟩, b3⟩ | ⟨b1, b2, b3⟩ | ⟨b1, b2, b3⟩
    · rw [b3, b2, if_pos (show nI (T) < 12 from nI_lt (a := T) (b := 12) (by omega) (by decide))]
      exact ⟨_, M, N, rfl, by rw [show M 10 t = 0 from b1], h⟩
    · rw [b3]
      exact ⟨_, M, N, rfl, by rw [show M 10 t = 1 from b1]; rfl, h⟩
    · rw [b3]
      exact ⟨_, M, N, rfl, by rw [show M 10 t = 2 from b1]; rfl, h⟩
  · rw [if_neg (show ¬ (1 : Int32) = 0 by decide), if_neg (show ¬ (1 : Int32) = 0 by decide), if_pos rfl, if_neg (show ¬ (1 : Int32) = 2 by decide)]
    rcases a1 with ⟨b1, ⟨T, hT', b2⟩, b3⟩ | ⟨b1, b2, b3⟩ | ⟨b1, b2, b3⟩
    · rw [b3, b2, if_pos (show nI (T) < 12 from nI_lt (a := T) (b := 12) (by omega) (by decide))]
      exact ⟨_, M, N, rfl, by first | rfl | rw [show M 11 t = nI T from b2], h⟩
    · rw [b3]
      exact ⟨_, M, N, rfl, by first | rfl | (rw [show M 11 t = (-1000000005) from b2]; rfl), h⟩
    · rw [b3]
      exact ⟨_, M, N, rfl, by first | rfl | (rw [show M 11 t = (-1000000005) from b2]; rfl), h⟩
  · rw [if_neg (show ¬ (2 : Int32) = 0 by decide), if_neg (show ¬ (2 : Int32) = 0 by decide), if_neg (show ¬ (2 : Int32) = 1 by decide), if_pos rfl, if_pos rfl]
    exact ⟨_, M, N, rfl, rfl, h⟩
