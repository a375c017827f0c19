theorem inv_slot {M N M' N' : Mem} (h : Inv M N) {s : Nat} (hs : s < 5) (hM : ∀ a, a ≠ 75 + 3 * s → a ≠ 76 + 3 * s → a ≠ 77 + 3 * s → M' a = M a) (hN : ∀ a, a < 7 ∨ 11 < a → N' a = N a) (h7 : ∀ j, j ≠ s → N' 7 j = N 7 j) (h8 : ∀ j, j ≠ s → N' 8 j = N 8 j) (h9 : ∀ j, j ≠ s → N' 9 j = N 9 j) (h10 : ∀ j, j ≠ s → N' 10 j = N 10 j) (h11 : ∀ j, j < 24 * s ∨ 24 * s + 24 ≤ j → N' 11 j = N 11 j) (hR : RP (M' (75 + 3 * s) 0) (M' (75 + 3 * s) 1) (M' (75 + 3 * s) 2) (M' (75 + 3 * s) 3) (M' (76 + 3 * s) 1) (M' (77 + 3 * s)) (N' 7 s) (N' 8 s) (N' 9 s) (N' 10 s) (N' 11) s) : Inv M' N' := by
  obtain ⟨hS, hI, hB, hH, hP, hW⟩ := id h
  refine inv_out h (fun a h1 h2 => hM a (by omega) (by omega) (by omega)) (by rw [hM 0 (by omega) (by omega) (by omega)]) (by rw [hN 0 (by omega)]) (fun a ha => hN a (by omega)) ?_ (fun i hi => ?_) (fun i hi => ?_) ?_
  · rw [hM 61 (by omega) (by omega) (by omega), hM 62 (by omega) (by omega) (by omega), hN 0 (by omega), hN 12 (by omega)]
    exact hB
  · rw [hM (66 + 2 * i) (by omega) (by omega) (by omega), hM (67 + 2 * i) (by omega) (by omega) (by omega), hN 4 (by omega), hN 5 (by omega), hN 6 (by omega)]
    exact hH i hi
  · by_cases e : i = s
    · subst e
      exact hR
    · rw [hM (75 + 3 * i) (by omega) (by omega) (by omega), hM (76 + 3 * i) (by omega) (by omega) (by omega), hM (77 + 3 * i) (by omega) (by omega) (by omega), h7 i e, h8 i e, h9 i e, h10 i e]
      obtain ⟨a1, a2⟩ := hP i hi
      refine ⟨a1, ?_⟩
      rcases a2 with a2 | a2 | ⟨b1, b2', b3, b4⟩ | a2
      · exact Or.inl a2
      · exact Or.inr (Or.inl a2)
      · exact Or.inr (Or.inr (Or.inl ⟨b1, b2', b3, fun j hj => by rw [h11 _ (by omega)]; exact b4 j hj⟩))
      · exact Or.inr (Or.inr (Or.inr a2))
  · rw [hM 0 (by omega) (by omega) (by omega), hM 64 (by omega) (by omega) (by omega), hN 0 (by omega), hN 20 (by omega)]
    exact hW
section
variable {M N : Mem}
theorem lay_0 (h : Inv M N) {s : Nat} (hs : s < 5) (r : Int32) : Same (f_X9_lay 0 (nI s) (nI 0) r M) (f_X10_lay 0 (nI s) (nI 0) r N) := by
  obtain ⟨gs1, gs2, gs3⟩ := g_slot s hs
  obtain ⟨p1, p2⟩ := h.2.2.2.2.1 s hs
  unfold f_X9_lay f_X10_lay
  simp (maxSteps := 1000000) (disch := omega) only [vv_e, mm_e, jn_e, bd_e, bd_i, e1_0_0, e1_0_1, e1_0_3, e1_0_4, e1_0_6, e1_0_7, e1_1_0, e1_1_1, e1_1_2, e1_1_3, e1_1_4, e1_1_5, e1_1_9, e1_2_1, e1_2_3, e1_2_4, e1_2_5, e1_2_6, e1_2_7, e1_9_1, e1_9_2, e1_9_3, e1_9_4, e1_9_5, e1_9_6, e1_16_0, e1_16_1, e1_19_0, e1_19_2, e1_19_3, e1_19_4, e1_24_1, e1_24_2, e1_24_3, e1_24_5, e1_61_0, e1_61_6, e2_0_0, e2_0_1, e2_0_2, e2_0_4, e2_0_5, e2_0_6, e2_0_7, e2_0_8, e2_0_9, e2_0_10, e2_0_11, e2_0_12, e2_0_24, e2_0_25, e2_0_28, e2_0_29, e2_0_30, e2_0_34, e2_0_35, e2_0_36, e2_0_38, ld_i, st_i, la_i, sl_i, nI_add, pk_mul, pk_sub, ng_add, neg_neg_n, nlt, nle, neq, ng_lt, gn_lt, gg_lt, ng_le, gn_le, gg_le, ng_eq, gn_eq, gg_eq, dv_i, if_pos, if_neg, ite_tt, ite_ff, if_b2, if_b2n, l_0, l_1, l_2, l_3, l_4, l_5, l_6, l_7, l_8, l_9, l_10, l_11, l_12, l_13, l_16, l_20, l_24, l_30, l_32, l_33, l_38, l_42, l_43, l_45, l_47, l_48, l_50, l_57, l_60, l_61, l_62, l_96, l_97, l_99, l_100, l_102, l_105, l_110, l_121, l_122, l_124, l_128, l_200, l_255, l_270, l_350, l_360, l_400, l_440, l_490, l_500, l_999, l_1000, l_9999, l_10000, l_99999, l_100000, l_1000000, l_1000000001, l_1000000002, l_1000000003, l_1000000005, l_1000000011, l_1000000012, l_1000000013, l_1000000014, up_a, up_k, up_same, s_isSlot, y_isSlot, s_within, gs1, p1]
  refine Same.mk (inv_slot h hs (fun a h1 h2 h3 => up_ne h1) (fun a ha => by rw [up_ne (by omega), up_ne (by omega), up_ne (by omega)]) (fun j hj => ?_) (fun j hj => ?_) (fun j hj => ?_) (fun j hj => ?_) (fun j hj => ?_) ⟨?_, Or.inl ?_⟩)
  · simp (maxSteps := 1000000) (disch := omega) only [up_a, up_k, up_same]
  · simp (maxSteps := 1000000) (disch := omega) only [up_a, up_k, up_same]
  · simp (maxSteps := 1000000) (disch := omega) only [up_a, up_k, up_same]
  · simp (maxSteps := 1000000) (disch := omega) only [up_a, up_k, up_same]
  · simp (maxSteps := 1000000) (disch := omega) only [up_a, up_k, up_same]
  · simp (maxSteps := 1000000) (disch := omega) only [up_a, up_k, up_same]
  · exact up_same _ _ _ _
theorem lay_3 (h : Inv M N) {s : Nat} (hs : s < 5) (r : Int32) : Same (f_X9_lay 0 (nI s) (nI 3) r M) (f_X10_lay 0 (nI s) (nI 3) r N) := by
  obtain ⟨gs1, gs2, gs3⟩ := g_slot s hs
  obtain ⟨p1, p2⟩ := h.2.2.2.2.1 s hs
  unfold f_X9_lay f_X10_lay
  simp (maxSteps := 1000000) (disch := omega) only [vv_e, mm_e, jn_e, bd_e, bd_i, e1_0_0, e1_0_1, e1_0_3, e1_0_4, e1_0_6, e1_0_7, e1_1_0, e1_1_1, e1_1_2, e1_1_3, e1_1_4, e1_1_5, e1_1_9, e1_2_1, e1_2_3, e1_2_4, e1_2_5, e1_2_6, e1_2_7, e1_9_1, e1_9_2, e1_9_3, e1_9_4, e1_9_5, e1_9_6, e1_16_0, e1_16_1, e1_19_0, e1_19_2, e1_19_3, e1_19_4, e1_24_1, e1_24_2, e1_24_3, e1_24_5, e1_61_0, e1_61_6, e2_0_0, e2_0_1, e2_0_2, e2_0_4, e2_0_5, e2_0_6, e2_0_7, e2_0_8, e2_0_9, e2_0_10, e2_0_11, e2_0_12, e2_0_24, e2_0_25, e2_0_28, e2_0_29, e2_0_30, e2_0_34, e2_0_35, e2_0_36, e2_0_38, ld_i, st_i, la_i, sl_i, nI_add, pk_mul, pk_sub, ng_add, neg_neg_n, nlt, nle, neq, ng_lt, gn_lt, gg_lt, ng_le, gn_le, gg_le, ng_eq, gn_eq, gg_eq, dv_i, if_pos, if_neg, ite_tt, ite_ff, if_b2, if_b2n, l_0, l_1, l_2, l_3, l_4, l_5, l_6, l_7, l_8, l_9, l_10, l_11, l_12, l_13, l_16, l_20, l_24, l_30, l_32, l_33, l_38, l_42, l_43, l_45, l_47, l_48, l_50, l_57, l_60, l_61, l_62, l_96, l_97, l_99, l_100, l_102, l_105, l_110, l_121, l_122, l_124, l_128, l_200, l_255, l_270, l_350, l_360, l_400, l_440, l_490, l_500, l_999, l_1000, l_9999, l_10000, l_99999, l_100000, l_1000000, l_1000000001, l_1000000002, l_1000000003, l_1000000005, l_1000000011, l_1000000012, l_1000000013, l_1000000014, up_a, up_k, up_same, s_isSlot, y_isSlot, s_within, gs1, p1]
  refine Same.mk (inv_slot h hs (fun a h1 h2 h3 => by rw [up_ne h1, up_ne h1]) (fun a ha => by rw [up_ne (by omega), up_ne (by omega), up_ne (by omega)]) (fun j hj => ?_) (fun j hj => ?_) (fun j hj => ?_) (fun j hj => ?_) (fun j hj => ?_) ⟨?_, Or.inr (Or.inr (Or.inr ⟨?_, ?_⟩))⟩)
  · simp (maxSteps := 1000000) (disch := omega) only [up_a, up_k, up_same]
  · simp (maxSteps := 1000000) (disch := omega) only [up_a, up_k, up_same]
  · simp (maxSteps := 1000000) (disch := omega) only [up_a, up_k, up_same]
  · simp (maxSteps := 1000000) (disch := omega) only [up_a, up_k, up_same]
  · simp (maxSteps := 1000000) (disch := omega) only [up_a, up_k, up_same]
  · simp (maxSteps := 1000000) (disch := omega) only [up_a, up_k, up_same]
  · rw [up_k _ _ _ _ _ (by decide), up_same]; rfl
  · simp (maxSteps := 1000000) (disch := omega) only [up_a, up_k, up_same]
theorem lay_1 (h : Inv M N) {s : Nat} (hs : s < 5) (r : Int32) : Same (f_X9_lay 0 (nI s) (nI 1) r M) (f_X10_lay 0 (nI s) (nI 1) r N) := by
  obtain ⟨nT, nF, nX, nC, nE, nL, nS, hS, hT, hF, hX, hL, hC, hR, hD, hN, hO, hZ⟩ := h.st
  obtain ⟨f1, f2, f3, f4⟩ := id hF
  obtain ⟨gs1, gs2, gs3⟩ := g_slot s hs
  obtain ⟨p1, p2⟩ := h.2.2.2.2.1 s hs
  unfold f_X9_lay f_X10_lay f_X5_holdFigure f_X10_figureAt
  by_cases hr : Rg r nF
  case neg =>
    simp (maxSteps := 1000000) (disch := omega) only [vv_e, mm_e, jn_e, bd_e, bd_i, e1_0_0, e1_0_1, e1_0_3, e1_0_4, e1_0_6, e1_0_7, e1_1_0, e1_1_1, e1_1_2, e1_1_3, e1_1_4, e1_1_5, e1_1_9, e1_2_1, e1_2_3, e1_2_4, e1_2_5, e1_2_6, e1_2_7, e1_9_1, e1_9_2, e1_9_3, e1_9_4, e1_9_5, e1_9_6, e1_16_0, e1_16_1, e1_19_0, e1_19_2, e1_19_3, e1_19_4, e1_24_1, e1_24_2, e1_24_3, e1_24_5, e1_61_0, e1_61_6, e2_0_0, e2_0_1, e2_0_2, e2_0_4, e2_0_5, e2_0_6, e2_0_7, e2_0_8, e2_0_9, e2_0_10, e2_0_11, e2_0_12, e2_0_24, e2_0_25, e2_0_28, e2_0_29, e2_0_30, e2_0_34, e2_0_35, e2_0_36, e2_0_38, ld_i, st_i, la_i, sl_i, nI_add, pk_mul, pk_sub, ng_add, neg_neg_n, nlt, nle, neq, ng_lt, gn_lt, gg_lt, ng_le, gn_le, gg_le, ng_eq, gn_eq, gg_eq, dv_i, if_pos, if_neg, ite_tt, ite_ff, if_b2, if_b2n, l_0, l_1, l_2, l_3, l_4, l_5, l_6, l_7, l_8, l_9, l_10, l_11, l_12, l_13, l_16, l_20, l_24, l_30, l_32, l_33, l_38, l_42, l_43, l_45, l_47, l_48, l_50, l_57, l_60, l_61, l_62, l_96, l_97, l_99, l_100, l_102, l_105, l_110, l_121, l_122, l_124, l_128, l_200, l_255, l_270, l_350, l_360, l_400, l_440, l_490, l_500, l_999, l_1000, l_9999, l_10000, l_99999, l_100000, l_1000000, l_1000000001, l_1000000002, l_1000000003, l_1000000005, l_1000000011, l_1000000012, l_1000000013, l_1000000014, s_isSlot, y_isSlot, s_within, has_f f1 hr (by omega), fig_f f2 hr (by omega)]
    exact Same.mk h
  obtain ⟨f, hf, rfl⟩ := hr
  obtain ⟨t, k, v, p, q1, q2, q3, q4, q5, a1, a2, a3, a4, c1, c2, c3, c4, c5, c6⟩ := hF.fig hf
  simp (maxSteps := 1000000) (disch := omega) only [vv_e, mm_e, jn_e, bd_e, bd_i, e1_0_0, e1_0_1, e1_0_3, e1_0_4, e1_0_6, e1_0_7, e1_1_0, e1_1_1, e1_1_2, e1_1_3, e1_1_4, e1_1_5, e1_1_9, e1_2_1, e1_2_3, e1_2_4, e1_2_5, e1_2_6, e1_2_7, e1_9_1, e1_9_2, e1_9_3, e1_9_4, e1_9_5, e1_9_6, e1_16_0, e1_16_1, e1_19_0, e1_19_2, e1_19_3, e1_19_4, e1_24_1, e1_24_2, e1_24_3, e1_24_5, e1_61_0, e1_61_6, e2_0_0, e2_0_1, e2_0_2, e2_0_4, e2_0_5, e2_0_6, e2_0_7, e2_0_8, e2_0_9, e2_0_10, e2_0_11, e2_0_12, e2_0_24, e2_0_25, e2_0_28, e2_0_29, e2_0_30, e2_0_34, e2_0_35, e2_0_36, e2_0_38, ld_i, st_i, la_i, sl_i, nI_add, pk_mul, pk_sub, ng_add, neg_neg_n, nlt, nle, neq, ng_lt, gn_lt, gg_lt, ng_le, gn_le, gg_le, ng_eq, gn_eq, gg_eq, dv_i, if_pos, if_neg, ite_tt, ite_ff, if_b2, if_b2n, l_0, l_1, l_2, l_3, l_4, l_5, l_6, l_7, l_8, l_9, l_10, l_11, l_12, l_13, l_16, l_20, l_24, l_30, l_32, l_33, l_38, l_42, l_43, l_45, l_47, l_48, l_50, l_57, l_60, l_61, l_62, l_96, l_97, l_99, l_100, l_102, l_105, l_110, l_121, l_122, l_124, l_128, l_200, l_255, l_270, l_350, l_360, l_400, l_440, l_490, l_500, l_999, l_1000, l_9999, l_10000, l_99999, l_100000, l_1000000, l_1000000001, l_1000000002, l_1000000003, l_1000000005, l_1000000011, l_1000000012, l_1000000013, l_1000000014, up_a, up_k, up_same, s_isSlot, y_isSlot, s_within, gs1, p1, has_t f1 hf (by omega), fig_t f2 hf (by omega), a2, a4, c2, c4]
  refine Same.mk (inv_slot h hs (fun a h1 h2 h3 => by rw [up_ne h1, up_ne h1, up_ne h1]) (fun a ha => by rw [up_ne (by omega), up_ne (by omega), up_ne (by omega)]) (fun j hj => ?_) (fun j hj => ?_) (fun j hj => ?_) (fun j hj => ?_) (fun j hj => ?_) ⟨?_, Or.inr (Or.inl ⟨?_, ?_, ?_, ?_, ?_⟩)⟩)
  · simp (maxSteps := 1000000) (disch := omega) only [up_a, up_k, up_same]
  · simp (maxSteps := 1000000) (disch := omega) only [up_a, up_k, up_same]
  · simp (maxSteps := 1000000) (disch := omega) only [up_a, up_k, up_same]
  · simp (maxSteps := 1000000) (disch := omega) only [up_a, up_k, up_same]
  · simp (maxSteps := 1000000) (disch := omega) only [up_a, up_k, up_same]
  · simp (maxSteps := 1000000) (disch := omega) only [up_a, up_k, up_same]
  · rw [up_k _ _ _ _ _ (by decide), up_k _ _ _ _ _ (by decide), up_same]; rfl
  · simp (maxSteps := 1000000) (disch := omega) only [up_a, up_k, up_same]
  · simp (maxSteps := 1000000) (disch := omega) only [up_a, up_k, up_same]
  · rw [up_k _ _ _ _ _ (by decide), up_same]; exact ⟨k, q2, rfl⟩
  · rw [up_same]; exact ⟨p, by omega, rfl⟩
theorem lay_2 (h : Inv M N) {s : Nat} (hs : s < 5) (r : Int32) : Same (f_X9_lay 0 (nI s) (nI 2) r M) (f_X10_lay 0 (nI s) (nI 2) r N) := by
  obtain ⟨gs1, gs2, gs3⟩ := g_slot s hs
  obtain ⟨p1, p2⟩ := h.2.2.2.2.1 s hs
  have hsl : (0 : Int32) ≤ nI s ∧ nI s ≤ 4 := ⟨nI_pos' (by omega), nI_le (b := 4) (by omega) (by decide)⟩
  unfold f_X10_lay
  simp only [jn_d, vv_d]
  rw [if_neg (show ¬ nI 2 = 0 by decide), if_neg (show ¬ nI 2 = 3 by decide), if_neg (show ¬ nI 2 = 1 by decide), if_pos (show nI 2 = 2 from rfl), y_isSheet, bd_e, if_b2]
  unfold f_X9_lay f_X4_become
  by_cases hr : 0 ≤ r ∧ r ≤ 3
  case neg =>
    rw [if_neg hr, y_isSlot, bd_e, if_b2, if_pos hsl, ite_tt]
    have hr' : ¬ (nI 0 ≤ r ∧ r ≤ nI 3) := hr
    simp (maxSteps := 1000000) (disch := omega) only [vv_e, mm_e, jn_e, bd_e, bd_i, e1_0_0, e1_0_1, e1_0_3, e1_0_4, e1_0_6, e1_0_7, e1_1_0, e1_1_1, e1_1_2, e1_1_3, e1_1_4, e1_1_5, e1_1_9, e1_2_1, e1_2_3, e1_2_4, e1_2_5, e1_2_6, e1_2_7, e1_9_1, e1_9_2, e1_9_3, e1_9_4, e1_9_5, e1_9_6, e1_16_0, e1_16_1, e1_19_0, e1_19_2, e1_19_3, e1_19_4, e1_24_1, e1_24_2, e1_24_3, e1_24_5, e1_61_0, e1_61_6, ld_i, st_i, la_i, sl_i, nI_add, pk_mul, pk_sub, ng_add, neg_neg_n, nlt, nle, neq, ng_lt, gn_lt, gg_lt, ng_le, gn_le, gg_le, ng_eq, gn_eq, gg_eq, dv_i, if_pos, if_neg, ite_tt, ite_ff, if_b2, if_b2n, l_0, l_1, l_2, l_3, l_4, l_5, l_6, l_7, l_8, l_9, l_10, l_11, l_12, l_13, l_16, l_20, l_24, l_30, l_32, l_33, l_38, l_42, l_43, l_45, l_47, l_48, l_50, l_57, l_60, l_61, l_62, l_96, l_97, l_99, l_100, l_102, l_105, l_110, l_121, l_122, l_124, l_128, l_200, l_255, l_270, l_350, l_360, l_400, l_440, l_490, l_500, l_999, l_1000, l_9999, l_10000, l_99999, l_100000, l_1000000, l_1000000001, l_1000000002, l_1000000003, l_1000000005, l_1000000011, l_1000000012, l_1000000013, l_1000000014, s_isSlot, s_within, s_isSheet, hr']
    exact Same.mk h
  rw [if_pos hr, y_isSlot, bd_e, if_b2, if_pos hsl, if_neg (show ¬ (1 : Int32) = 0 by decide), if_pos (show nI 2 = 2 from rfl)]
  obtain ⟨k, hk, rfl⟩ := rgN (c := 3) (by decide) hr
  obtain ⟨hg1, hg2⟩ := g_sheet k (by omega)
  obtain ⟨a1, a2, a3, ⟨z, hz, a4⟩, a5⟩ := h.2.2.2.1 k (by omega)
  rw [e2_0_4, ld_i (by omega) (by decide), a1]
  rcases (show M (66 + 2 * k) 0 = -1 ∨ ¬ M (66 + 2 * k) 0 < 0 ∧ ¬ M (66 + 2 * k) 0 = -1 by
    rcases a3 with a3 | a3 | a3
    · exact Or.inl a3
    · exact Or.inr (by rw [a3]; decide)
    · exact Or.inr (by rw [a3]; decide)) with n1 | ⟨n1, n2⟩
  · rw [n1, if_pos (show (-1 : Int32) < 0 by decide)]
    have n1' : M (66 + 2 * k) 0 = -nI 1 := n1
    simp (maxSteps := 1000000) (disch := omega) only [vv_e, mm_e, jn_e, bd_e, bd_i, e1_0_0, e1_0_1, e1_0_3, e1_0_4, e1_0_6, e1_0_7, e1_1_0, e1_1_1, e1_1_2, e1_1_3, e1_1_4, e1_1_5, e1_1_9, e1_2_1, e1_2_3, e1_2_4, e1_2_5, e1_2_6, e1_2_7, e1_9_1, e1_9_2, e1_9_3, e1_9_4, e1_9_5, e1_9_6, e1_16_0, e1_16_1, e1_19_0, e1_19_2, e1_19_3, e1_19_4, e1_24_1, e1_24_2, e1_24_3, e1_24_5, e1_61_0, e1_61_6, ld_i, st_i, la_i, sl_i, nI_add, pk_mul, pk_sub, ng_add, neg_neg_n, nlt, nle, neq, ng_lt, gn_lt, gg_lt, ng_le, gn_le, gg_le, ng_eq, gn_eq, gg_eq, dv_i, if_pos, if_neg, ite_tt, ite_ff, if_b2, if_b2n, l_0, l_1, l_2, l_3, l_4, l_5, l_6, l_7, l_8, l_9, l_10, l_11, l_12, l_13, l_16, l_20, l_24, l_30, l_32, l_33, l_38, l_42, l_43, l_45, l_47, l_48, l_50, l_57, l_60, l_61, l_62, l_96, l_97, l_99, l_100, l_102, l_105, l_110, l_121, l_122, l_124, l_128, l_200, l_255, l_270, l_350, l_360, l_400, l_440, l_490, l_500, l_999, l_1000, l_9999, l_10000, l_99999, l_100000, l_1000000, l_1000000001, l_1000000002, l_1000000003, l_1000000005, l_1000000011, l_1000000012, l_1000000013, l_1000000014, s_isSlot, s_within, s_isSheet, hg1, n1']
    exact Same.mk h
  rw [if_neg n1]
  have n2' : ¬ M (66 + 2 * k) 0 = -nI 1 := n2
  rw [e2_0_7, ld_i (by omega) (by decide), st_i (by omega) (by decide), e2_0_8, if_neg (show ¬ nI 2 = 1 by decide), st_i (by omega) (by decide), e2_0_9, if_neg (show ¬ nI 2 = 1 by decide), st_i (by omega) (by decide), if_pos (show nI 2 = 2 from rfl), e2_0_10, e2_0_5, ld_i (by omega) (by decide), st_i (by omega) (by decide), p1]
  simp (maxSteps := 1000000) (disch := omega) only [vv_e, mm_e, jn_e, bd_e, bd_i, e1_0_0, e1_0_1, e1_0_3, e1_0_4, e1_0_6, e1_0_7, e1_1_0, e1_1_1, e1_1_2, e1_1_3, e1_1_4, e1_1_5, e1_1_9, e1_2_1, e1_2_3, e1_2_4, e1_2_5, e1_2_6, e1_2_7, e1_9_1, e1_9_2, e1_9_3, e1_9_4, e1_9_5, e1_9_6, e1_16_0, e1_16_1, e1_19_0, e1_19_2, e1_19_3, e1_19_4, e1_24_1, e1_24_2, e1_24_3, e1_24_5, e1_61_0, e1_61_6, la_i, neq, nle, if_pos, if_neg, ite_tt, ite_ff, if_b2, if_b2n, l_0, l_1, l_2, l_3, l_4, l_24, s_isSlot, s_within, s_isSheet, hg1, hg2, gs1, gs2, gs3, n2', cy_i, up_a, up_k, up_same, a4]
  apply R2.same
  refine ro1 (fun n y N' => ∃ e, e + n = 24 ∧ y = nI e ∧ (∀ j, j < e → N' 11 (24 * s + j) = M (67 + 2 * k) j) ∧ (∀ j, j < 24 * s ∨ 24 * s + 24 ≤ j → N' 11 j = N 11 j) ∧ ∀ q, q ≠ 11 → N' q = up (up (up (up N 7 s (nI 2)) 8 s (nI k)) 9 s 0) 10 s (N 5 k) q) ?_ fuel 24 _ _ (by decide) ⟨0, by omega, rfl, fun j hj => absurd hj (Nat.not_lt_zero j), fun j hj => by rw [up_a _ _ _ _ _ _ (by decide), up_a _ _ _ _ _ _ (by decide), up_a _ _ _ _ _ _ (by decide), up_a _ _ _ _ _ _ (by decide)], fun q hq => rfl⟩
  rintro n rd _ N' ⟨e, he, rfl, g1, g2, g3⟩ ih
  have g6 : N' 6 = N 6 := by rw [g3 6 (by decide), up_ne (by decide), up_ne (by decide), up_ne (by decide), up_ne (by decide)]
  by_cases he24 : e = 24
  case neg =>
    simp (maxSteps := 1000000) (disch := omega) only [vv_e, mm_e, jn_e, bd_e, bd_i, e2_0_0, e2_0_1, e2_0_2, e2_0_4, e2_0_5, e2_0_6, e2_0_7, e2_0_8, e2_0_9, e2_0_10, e2_0_11, e2_0_12, e2_0_24, e2_0_25, e2_0_28, e2_0_29, e2_0_30, e2_0_34, e2_0_35, e2_0_36, e2_0_38, ld_i, st_i, la_i, sl_i, nI_add, pk_mul, pk_sub, ng_add, neg_neg_n, nlt, nle, neq, ng_lt, gn_lt, gg_lt, ng_le, gn_le, gg_le, ng_eq, gn_eq, gg_eq, dv_i, if_pos, if_neg, ite_tt, ite_ff, if_b2, if_b2n, l_0, l_1, l_2, l_3, l_4, l_5, l_6, l_7, l_8, l_9, l_10, l_11, l_12, l_13, l_16, l_20, l_24, l_30, l_32, l_33, l_38, l_42, l_43, l_45, l_47, l_48, l_50, l_57, l_60, l_61, l_62, l_96, l_97, l_99, l_100, l_102, l_105, l_110, l_121, l_122, l_124, l_128, l_200, l_255, l_270, l_350, l_360, l_400, l_440, l_490, l_500, l_999, l_1000, l_9999, l_10000, l_99999, l_100000, l_1000000, l_1000000001, l_1000000002, l_1000000003, l_1000000005, l_1000000011, l_1000000012, l_1000000013, l_1000000014, g6]
    refine ih (n - 1) _ _ (by omega) ⟨e + 1, by omega, rfl, fun j hj => ?_, fun j hj => ?_, fun q hq => by rw [up_ne hq]; exact g3 q hq⟩
    · by_cases hje : j = e
      · subst hje
        rw [up_same]
        exact a5 j (by omega)
      · rw [up_k _ _ _ _ _ (by omega)]
        exact g1 j (by omega)
    · rw [up_k _ _ _ _ _ (by omega)]
      exact g2 j hj
  subst he24
  rw [if_neg (by decide)]
  refine R2.mk (inv_slot h hs (fun a h1 h2 h3 => ?_) (fun a ha => ?_) (fun j hj => ?_) (fun j hj => ?_) (fun j hj => ?_) (fun j hj => ?_) g2 ⟨?_, Or.inr (Or.inr (Or.inl ⟨?_, ?_, ?_, fun j hj => ?_⟩))⟩)
  · rw [cpm_ne h3, up_ne h2, up_ne h2, up_ne h1]
  · rw [g3 a (by omega), up_ne (by omega), up_ne (by omega), up_ne (by omega), up_ne (by omega)]
  · rw [g3 7 (by decide)]; simp (maxSteps := 1000000) (disch := omega) only [up_a, up_k, up_same]
  · rw [g3 8 (by decide)]; simp (maxSteps := 1000000) (disch := omega) only [up_a, up_k, up_same]
  · rw [g3 9 (by decide)]; simp (maxSteps := 1000000) (disch := omega) only [up_a, up_k, up_same]
  · rw [g3 10 (by decide)]; simp (maxSteps := 1000000) (disch := omega) only [up_a, up_k, up_same]
  · rw [g3 7 (by decide), cpm_ne (by omega)]; simp (maxSteps := 1000000) (disch := omega) only [up_a, up_k, up_same]
  · rw [cpm_ne (by omega)]; simp (maxSteps := 1000000) (disch := omega) only [up_a, up_k, up_same]; rfl
  · rw [g3 10 (by decide), cpm_ne (by omega)]; simp (maxSteps := 1000000) (disch := omega) only [up_a, up_k, up_same, a2, a4]
  · rw [cpm_ne (by omega)]; simp (maxSteps := 1000000) (disch := omega) only [up_a, up_k, up_same]; exact ⟨z, hz, rfl⟩
  · rw [cpm_at, pk_cpy_in (by omega) (by omega), g1 j hj, up_ne (by omega), up_ne (by omega), up_ne (by omega), show 0 + (j - 0) = j by omega]
end
theorem op_lay : ∀ (p q r : Int32) (M N : Mem), Inv M N → Same (f_X9_lay 0 p q r M) (f_X10_lay 0 p q r N) := by
  intro p q r M N h
  by_cases hp : 0 ≤ p ∧ p ≤ 4
  · obtain ⟨s, hs, rfl⟩ := rgN (c := 4) (by decide) hp
    by_cases hq : 0 ≤ q ∧ q ≤ 3
    · obtain ⟨th, hth, rfl⟩ := rgN (c := 3) (by decide) hq
      rcases (show th = 0 ∨ th = 1 ∨ th = 2 ∨ th = 3 by omega) with rfl | rfl | rfl | rfl
      · exact lay_0 h (by omega) r
      · exact lay_1 h (by omega) r
      · exact lay_2 h (by omega) r
      · exact lay_3 h (by omega) r
    · have q0 : ¬ q = 0 := fun e => hq (by rw [e]; decide)
      have q1 : ¬ q = 1 := fun e => hq (by rw [e]; decide)
      have q2 : ¬ q = 2 := fun e => hq (by rw [e]; decide)
      have q3 : ¬ q = 3 := fun e => hq (by rw [e]; decide)
      unfold f_X9_lay f_X10_lay
      simp only [jn_d, vv_d]
      rw [s_isSlot, bd_e, if_b2, if_pos hp, s_within, bd_e, if_b2, if_neg hq, if_neg q0, if_neg q3, if_neg q1, if_neg q2, y_isSlot, bd_e, if_b2, if_pos hp, ite_tt]
      exact Same.mk h
  · have hx : f_X9_lay 0 p q r M = some (-1000000001, M) := by
      unfold f_X9_lay
      rw [s_isSlot, bd_e, if_b2, if_neg hp]
    rw [hx]
    have K : ∀ (A : Int32 → Mem → Option (Int32 × Mem)), Same (some (-1000000001, M)) (bd (f_X10_isSlot p N) fun x3 M' => if x3 = 0 then some (-1000000001, M') else A x3 M') := fun A => by
      rw [y_isSlot, bd_e, if_b2, if_neg hp]
      exact Same.mk h
    unfold f_X10_lay
    simp only [jn_d]
    by_cases q0 : q = 0
    · rw [if_pos q0]; exact K _
    rw [if_neg q0]
    by_cases q3 : q = 3
    · rw [if_pos q3]; exact K _
    rw [if_neg q3]
    by_cases q1 : q = 1
    · rw [if_pos q1, s_isFigure, bd_e, if_b2]
      by_cases hf : 0 ≤ r ∧ r ≤ N 1 1 - 1
      · rw [if_pos hf]; exact K _
      rw [if_neg hf]
      have q2 : ¬ q = 2 := fun e => by rw [e] at q1; exact absurd q1 (by decide)
      rw [if_neg q2]
      exact K _
    rw [if_neg q1]
    by_cases q2 : q = 2
    · rw [if_pos q2, y_isSheet, bd_e, if_b2]
      by_cases hf : 0 ≤ r ∧ r ≤ 3
      · rw [if_pos hf]; exact K _
      · rw [if_neg hf]; exact K _
    · rw [if_neg q2]; exact K _
