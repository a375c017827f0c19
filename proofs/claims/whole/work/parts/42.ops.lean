theorem k_two {p : Int32} (h : 0 ≤ p ∧ p ≤ 2) : p = 0 ∨ p = 1 ∨ p = 2 := by
  obtain ⟨k, hk, rfl⟩ := rg_of (n := 2) rfl h.1 h.2
  rcases (show k = 0 ∨ k = 1 ∨ k = 2 by omega) with rfl | rfl | rfl
  · exact Or.inl rfl
  · exact Or.inr (Or.inl rfl)
  · exact Or.inr (Or.inr rfl)
theorem op_why : ∀ (p q : Int32) (M N : Mem), Inv M N → ∃ r M' N', f_X9_why 0 p q M = some (r, M') ∧ f_X10_why 0 p q N = some (r, N') ∧ Inv M' N' := by
  intro p q M N h
  obtain ⟨nT, nF, nX, nC, nE, nL, nS, hT, hF, hX, hL, hC, hR, hD, hN, hO, hZ⟩ := h.1
  obtain ⟨x1, x2, x3, x4⟩ := id hX
  have x1 : M 9 0 = nI nX := x1
  have cl : ∀ c, ∀ t, lastT (fun t => N 1 (500 + 200 * t) = c) nX = some t → t < 2 ^ 31 := fun c t ht => by
    have := (lastT_lt nX t ht).1
    omega
  unfold f_X9_why f_X10_why
  simp only [s_within, vv_d, mm_d, jn_d, bd_d, bd_i, r1_0_0, r1_0_1, r1_0_3, r1_0_4, r1_0_6, r1_0_7, r1_1_0, r1_1_1, r1_1_2, r1_1_3, r1_1_4, r1_1_5, r1_1_9, r1_2_1, r1_2_3, r1_2_4, r1_2_5, r1_2_6, r1_2_7, r1_9_1, r1_9_2, r1_9_3, r1_9_4, r1_9_5, r1_9_6, r1_16_0, r1_16_1, r1_19_0, r1_19_2, r1_19_3, r1_19_4, r1_24_1, r1_24_2, r1_24_3, r1_24_5, r1_61_0, r1_61_6, r2_0_0, r2_0_1, r2_0_2, r2_0_4, r2_0_5, r2_0_6, r2_0_7, r2_0_8, r2_0_9, r2_0_10, r2_0_11, r2_0_12, r2_0_24, r2_0_25, r2_0_28, r2_0_29, r2_0_30, r2_0_34, r2_0_35, r2_0_36, r2_0_38, if_b2, s_isInL p 0 2 0 2 N rfl rfl, s_isInL q 0 11 0 11 N rfl rfl]
  by_cases hp : 0 ≤ p ∧ p ≤ 2
  case neg =>
    rw [if_neg hp, if_neg hp]
    exact ⟨_, M, N, rfl, rfl, h⟩
  rw [if_pos hp, if_pos hp, x_latest 9 nX p q M x1 x3]
  rcases k_two hp with rfl | rfl | rfl
  · rw [if_pos rfl, if_pos rfl, if_pos rfl]
    by_cases hq : 0 ≤ q ∧ q ≤ 11
    case neg =>
      rw [if_neg hq, if_neg hq]
      exact ⟨_, M, N, rfl, rfl, h⟩
    rw [if_pos hq, if_pos hq, y_counts nX q N x2 x3]
    have e : lastT (fun t => M (grf G1 9 1) t = 0 ∧ ((0 : Int32) = 0 → M (grf G1 9 2) t = q)) nX = lastT (fun t => N 1 (500 + 200 * t) = q) nX := lat_eq hX 0 q q (Or.inl ⟨rfl, rg_of (n := 11) rfl hq.1 hq.2, rfl⟩)
    rw [e]
    simp only [vv_d, mm_d, jn_d, bd_d, bd_i, y_orNone _ (cl q) N]
    exact ⟨_, M, N, rfl, rfl, h⟩
  · rw [if_neg (show ¬ (1 : Int32) = 0 by decide), if_neg (show ¬ (1 : Int32) = 0 by decide), if_neg (show ¬ (1 : Int32) = 0 by decide), y_counts nX (1 + 11) N x2 x3]
    have e : lastT (fun t => M (grf G1 9 1) t = 1 ∧ ((1 : Int32) = 0 → M (grf G1 9 2) t = q)) nX = lastT (fun t => N 1 (500 + 200 * t) = (1 + 11)) nX := lat_eq hX 1 q (1 + 11) (Or.inr (Or.inl ⟨rfl, by decide⟩))
    rw [e]
    simp only [vv_d, mm_d, jn_d, bd_d, bd_i, y_orNone _ (cl (1 + 11)) N]
    exact ⟨_, M, N, rfl, rfl, h⟩
  · rw [if_neg (show ¬ (2 : Int32) = 0 by decide), if_neg (show ¬ (2 : Int32) = 0 by decide), if_neg (show ¬ (2 : Int32) = 0 by decide), y_counts nX (2 + 11) N x2 x3]
    have e : lastT (fun t => M (grf G1 9 1) t = 2 ∧ ((2 : Int32) = 0 → M (grf G1 9 2) t = q)) nX = lastT (fun t => N 1 (500 + 200 * t) = (2 + 11)) nX := lat_eq hX 2 q (2 + 11) (Or.inr (Or.inr ⟨rfl, by decide⟩))
    rw [e]
    simp only [vv_d, mm_d, jn_d, bd_d, bd_i, y_orNone _ (cl (2 + 11)) N]
    exact ⟨_, M, N, rfl, rfl, h⟩
