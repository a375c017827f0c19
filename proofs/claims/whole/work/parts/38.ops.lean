/-! slots: rest, item, ask -/
theorem la_n {β : Type} {G : Gr} {a : Nat} {i : Int32} {n : Nat} {k : Nat → Option β} (j : Nat) (hi : i = nI j) (h : j < n) (hn : n < 2 ^ 31) : la G a i n k = k (grf G a j) := by
  subst hi
  have h2 : vp_in (nI j) n := vp_in_nI h hn
  unfold la
  rw [if_neg h2, nI_clamp (by omega)]
theorem sl_n {β : Type} {f : Nat → Int32} {i : Int32} {n : Nat} {k : Int32 → Option β} (j : Nat) (hi : i = nI j) (h : j < n) (hn : n < 2 ^ 31) : sl f i n k = k (f j) := by
  subst hi
  have h2 : vp_in (nI j) n := vp_in_nI h hn
  unfold sl
  rw [if_neg h2, nI_clamp (by omega)]
theorem g_slot : ∀ i, i < 5 → grf G1 74 i = 75 + 3 * i ∧ grf G1 (75 + 3 * i) 4 = 76 + 3 * i ∧ grf G1 (76 + 3 * i) 2 = 77 + 3 * i := by decide
theorem g_sheet : ∀ i, i < 4 → grf G1 65 i = 66 + 2 * i ∧ grf G1 (66 + 2 * i) 2 = 67 + 2 * i := by decide
theorem s_isSlot (p : Int32) (M : Mem) : f_X9_isSlot p M = some (b2 (0 ≤ p ∧ p ≤ 4), M) := by
  unfold f_X9_isSlot
  simp only [s_within, vv_d, mm_d, jn_d, bd_d, bd_i]
theorem y_isSlot (p : Int32) (M : Mem) : f_X10_isSlot p M = some (b2 (0 ≤ p ∧ p ≤ 4), M) := by
  unfold f_X10_isSlot
  simp only [vv_d, mm_d, jn_d, bd_d, bd_i, s_isInL p 0 4 0 4 M rfl rfl]
theorem s_isSheet (p : Int32) (M : Mem) : f_X9_isSheet p M = some (b2 (0 ≤ p ∧ p ≤ 3), M) := by
  unfold f_X9_isSheet
  simp only [s_within, vv_d, mm_d, jn_d, bd_d, bd_i]
theorem y_isSheet (p : Int32) (M : Mem) : f_X10_isSheet p M = some (b2 (0 ≤ p ∧ p ≤ 3), M) := by
  unfold f_X10_isSheet
  simp only [vv_d, mm_d, jn_d, bd_d, bd_i, s_isInL p 0 3 0 3 M rfl rfl]
theorem s_has4 (o : Nat) (p : Int32) (M : Mem) : f_X4_has o p M = some (b2 (0 ≤ p ∧ p < M o 1), M) := by
  unfold f_X4_has b2
  simp only [vv_d, mm_d, jn_d, bd_d, bd_i]
  by_cases h1 : p < 0
  · rw [if_pos h1, if_neg (fun q => Int32.not_lt.mpr q.1 h1)]
  · rw [if_neg h1]
    by_cases h2 : p < M o 1
    · rw [if_pos h2, if_pos ⟨Int32.not_lt.mp h1, h2⟩]
    · rw [if_neg h2, if_neg (fun q => h2 q.2)]
theorem op_rest : ∀ (p q : Int32) (M N : Mem), Inv M N → ∃ r M' N', f_X9_rest 0 p q M = some (r, M') ∧ f_X10_rest 0 p q N = some (r, N') ∧ Inv M' N' := by
  intro p q M N h
  unfold f_X9_rest f_X10_rest
  simp only [s_isSlot, y_isSlot, vv_d, mm_d, jn_d, bd_d, bd_i, r1_0_0, r1_0_1, r1_0_3, r1_0_4, r1_0_6, r1_0_7, r1_1_0, r1_1_1, r1_1_2, r1_1_3, r1_1_4, r1_1_5, r1_1_9, r1_2_1, r1_2_3, r1_2_4, r1_2_5, r1_2_6, r1_2_7, r1_9_1, r1_9_2, r1_9_3, r1_9_4, r1_9_5, r1_9_6, r1_16_0, r1_16_1, r1_19_0, r1_19_2, r1_19_3, r1_19_4, r1_24_1, r1_24_2, r1_24_3, r1_24_5, r1_61_0, r1_61_6, r2_0_0, r2_0_1, r2_0_2, r2_0_4, r2_0_5, r2_0_6, r2_0_7, r2_0_8, r2_0_9, r2_0_10, r2_0_11, r2_0_12, r2_0_24, r2_0_25, r2_0_28, r2_0_29, r2_0_30, r2_0_34, r2_0_35, r2_0_36, r2_0_38, if_b2]
  by_cases hp : 0 ≤ p ∧ p ≤ 4
  case neg =>
    rw [if_neg hp, if_neg hp]
    exact ⟨_, M, N, rfl, rfl, h⟩
  rw [if_pos hp, if_pos hp]
  obtain ⟨i, hi, rfl⟩ := rg_of (n := 4) rfl hp.1 hp.2
  obtain ⟨h1, h2⟩ := h.2.2.2.2.1 i (by omega)
  rw [la_n i rfl (by omega) (by decide), (g_slot i (by omega)).1, ld_n i rfl (by omega) (by decide), ld_n i rfl (by omega) (by decide), ld_n i rfl (by omega) (by decide), h1]
  rcases h2 with e | ⟨e, -⟩ | ⟨e, -⟩ | ⟨e, e2⟩
  · rw [e]
    exact ⟨_, M, N, rfl, rfl, h⟩
  · rw [e]
    exact ⟨_, M, N, rfl, rfl, h⟩
  · rw [e]
    exact ⟨_, M, N, rfl, rfl, h⟩
  · rw [e, e2]
    by_cases hq : q = 0
    · rw [hq]
      exact ⟨_, M, N, rfl, rfl, h⟩
    · rw [if_neg (show ¬ (3 : Int32) = 0 by decide), if_pos rfl, if_pos rfl, if_neg hq, if_neg hq, dv_n hq, dv_n hq]
      exact ⟨_, M, N, rfl, rfl, h⟩
theorem op_item : ∀ (p q : Int32) (M N : Mem), Inv M N → ∃ r M' N', f_X9_item 0 p q M = some (r, M') ∧ f_X10_item 0 p q N = some (r, N') ∧ Inv M' N' := by
  intro p q M N h
  unfold f_X9_item f_X10_item
  simp only [s_isSlot, y_isSlot, s_has4, vv_d, mm_d, jn_d, bd_d, bd_i, r1_0_0, r1_0_1, r1_0_3, r1_0_4, r1_0_6, r1_0_7, r1_1_0, r1_1_1, r1_1_2, r1_1_3, r1_1_4, r1_1_5, r1_1_9, r1_2_1, r1_2_3, r1_2_4, r1_2_5, r1_2_6, r1_2_7, r1_9_1, r1_9_2, r1_9_3, r1_9_4, r1_9_5, r1_9_6, r1_16_0, r1_16_1, r1_19_0, r1_19_2, r1_19_3, r1_19_4, r1_24_1, r1_24_2, r1_24_3, r1_24_5, r1_61_0, r1_61_6, r2_0_0, r2_0_1, r2_0_2, r2_0_4, r2_0_5, r2_0_6, r2_0_7, r2_0_8, r2_0_9, r2_0_10, r2_0_11, r2_0_12, r2_0_24, r2_0_25, r2_0_28, r2_0_29, r2_0_30, r2_0_34, r2_0_35, r2_0_36, r2_0_38, if_b2]
  by_cases hp : 0 ≤ p ∧ p ≤ 4
  case neg =>
    rw [if_neg hp, if_neg hp]
    exact ⟨_, M, N, rfl, rfl, h⟩
  rw [if_pos hp, if_pos hp]
  obtain ⟨i, hi, rfl⟩ := rg_of (n := 4) rfl hp.1 hp.2
  obtain ⟨h1, h2⟩ := h.2.2.2.2.1 i (by omega)
  obtain ⟨g1, g2, g3⟩ := g_slot i (by omega)
  rw [la_n i rfl (by omega) (by decide), g1, ld_n i rfl (by omega) (by decide), ld_n i rfl (by omega) (by decide), ld_n i rfl (by omega) (by decide), h1, g2, g3]
  rcases h2 with e | ⟨e, -⟩ | ⟨e, e2, ⟨n, hn, e3⟩, e4⟩ | ⟨e, -⟩
  · rw [e]
    exact ⟨_, M, N, rfl, rfl, h⟩
  · rw [e]
    exact ⟨_, M, N, rfl, rfl, h⟩
  · rw [e, e2, if_neg (show ¬ (2 : Int32) = 0 by decide), if_pos rfl, if_pos rfl, s_isInL q 0 (Int32.toInt64 (M (76 + 3 * i) 1 - 1)) 0 (M (76 + 3 * i) 1 - 1) N rfl rfl]
    simp only [vv_d, mm_d, jn_d, bd_d, bd_i, if_b2, e3]
    by_cases hq : Rg q n
    case neg =>
      rw [if_neg (fun z => hq ((rg_lt (by omega)).mp z)), if_neg (fun z => hq ((rg_le (by omega)).mp z))]
      exact ⟨_, M, N, rfl, rfl, h⟩
    rw [if_pos ((rg_lt (by omega)).mpr hq), if_pos ((rg_le (by omega)).mpr hq)]
    obtain ⟨j, hj, rfl⟩ := hq
    rw [ld_n j rfl (by omega) (by decide), ld_n j rfl (by omega) (by decide), ld_n (24 * i + j) (show 24 * nI i + nI j = nI (24 * i + j) by rw [show (24 : Int32) * nI i = nI (24 * i) from pk_mul 24 i, nI_add]) (by omega) (by decide), e4 j (by omega)]
    by_cases hv : M (77 + 3 * i) j = (-1000000005)
    · rw [if_pos hv, if_pos hv]
      exact ⟨_, M, N, rfl, rfl, h⟩
    · rw [if_neg hv, if_neg hv]
      exact ⟨_, M, N, rfl, rfl, h⟩
  · rw [e]
    exact ⟨_, M, N, rfl, rfl, h⟩
theorem price_eq : ∀ k, k < 8 → ∀ (p : Int32) (M N : Mem), ∃ r, f_X9_price (nI k) p M = some (r, M) ∧ f_X10_priceOf (nI k) p N = some (r, N) := by
  intro k hk p M N
  rcases (show k = 0 ∨ k = 1 ∨ k = 2 ∨ k = 3 ∨ k = 4 ∨ k = 5 ∨ k = 6 ∨ k = 7 by omega) with rfl | rfl | rfl | rfl | rfl | rfl | rfl | rfl <;> exact ⟨_, rfl, rfl⟩
theorem ofk_eq : ∀ k, k < 8 → ∀ p, p < 8 → ∀ (M N : Mem), ∃ r, f_X9_isOfKind (nI k) (nI p) M = some (r, M) ∧ f_X10_isOf (nI k) (nI p) N = some (r, N) := by
  intro k hk p hp M N
  rcases (show k = 0 ∨ k = 1 ∨ k = 2 ∨ k = 3 ∨ k = 4 ∨ k = 5 ∨ k = 6 ∨ k = 7 by omega) with rfl | rfl | rfl | rfl | rfl | rfl | rfl | rfl <;> rcases (show p = 0 ∨ p = 1 ∨ p = 2 ∨ p = 3 ∨ p = 4 ∨ p = 5 ∨ p = 6 ∨ p = 7 by omega) with rfl | rfl | rfl | rfl | rfl | rfl | rfl | rfl <;> exact ⟨_, rfl, rfl⟩
theorem op_ask : ∀ (p q : Int32) (M N : Mem), Inv M N → ∃ r M' N', f_X9_ask 0 p q M = some (r, M') ∧ f_X10_ask 0 p q N = some (r, N') ∧ Inv M' N' := by
  intro p q M N h
  unfold f_X9_ask f_X10_ask
  simp only [s_isSlot, y_isSlot, s_isKind, vv_d, mm_d, jn_d, bd_d, bd_i, r1_0_0, r1_0_1, r1_0_3, r1_0_4, r1_0_6, r1_0_7, r1_1_0, r1_1_1, r1_1_2, r1_1_3, r1_1_4, r1_1_5, r1_1_9, r1_2_1, r1_2_3, r1_2_4, r1_2_5, r1_2_6, r1_2_7, r1_9_1, r1_9_2, r1_9_3, r1_9_4, r1_9_5, r1_9_6, r1_16_0, r1_16_1, r1_19_0, r1_19_2, r1_19_3, r1_19_4, r1_24_1, r1_24_2, r1_24_3, r1_24_5, r1_61_0, r1_61_6, r2_0_0, r2_0_1, r2_0_2, r2_0_4, r2_0_5, r2_0_6, r2_0_7, r2_0_8, r2_0_9, r2_0_10, r2_0_11, r2_0_12, r2_0_24, r2_0_25, r2_0_28, r2_0_29, r2_0_30, r2_0_34, r2_0_35, r2_0_36, r2_0_38, if_b2, s_isInL q 0 7 0 7 N rfl rfl]
  by_cases hp : 0 ≤ p ∧ p ≤ 4
  case neg =>
    rw [if_neg hp, if_neg hp]
    exact ⟨_, M, N, rfl, rfl, h⟩
  rw [if_pos hp, if_pos hp]
  by_cases hq : 0 ≤ q ∧ q ≤ 7
  case neg =>
    rw [if_neg hq, if_neg hq]
    exact ⟨_, M, N, rfl, rfl, h⟩
  rw [if_pos hq, if_pos hq]
  obtain ⟨i, hi, rfl⟩ := rg_of (n := 4) rfl hp.1 hp.2
  obtain ⟨k, hk, rfl⟩ := rg_of (n := 7) rfl hq.1 hq.2
  obtain ⟨h1, h2⟩ := h.2.2.2.2.1 i (by omega)
  rw [la_n i rfl (by omega) (by decide), (g_slot i (by omega)).1, ld_n i rfl (by omega) (by decide), ld_n i rfl (by omega) (by decide), ld_n i rfl (by omega) (by decide), h1]
  rcases h2 with e | ⟨e, e2, e3, ⟨kd, c1, c2⟩, e5⟩ | ⟨e, -⟩ | ⟨e, -⟩
  · rw [e]
    exact ⟨_, M, N, rfl, rfl, h⟩
  · rw [e, e2, if_neg (show ¬ (1 : Int32) = 0 by decide), if_neg (show ¬ (1 : Int32) = 0 by decide), if_pos rfl, if_pos rfl, c2]
    obtain ⟨r, r1, r2⟩ := ofk_eq kd c1 k (by omega) M N
    rw [r1, r2]
    simp only [vv_d, mm_d, jn_d, bd_d, bd_i]
    by_cases hr : r = 0
    · rw [if_pos hr, if_pos hr]
      exact ⟨_, M, N, rfl, rfl, h⟩
    · rw [if_neg hr, if_neg hr, ld_n i rfl (by omega) (by decide), ld_n i rfl (by omega) (by decide), e2, e3, c2]
      obtain ⟨r3, r4, r5⟩ := price_eq kd c1 (M (75 + 3 * i) 2) M N
      rw [r4, r5]
      exact ⟨_, M, N, rfl, rfl, h⟩
  · rw [e]
    exact ⟨_, M, N, rfl, rfl, h⟩
  · rw [e]
    exact ⟨_, M, N, rfl, rfl, h⟩
