/-! the two readers: bytes, words, signs -/
theorem l_14b : (14 : Int32) = nI 14 := congrArg Int32.ofNat (Eq.refl 14)
def cbv (u : Nat) : Int32 := if u < 128 then nI u else -nI (256 - u)
theorem cb_eq : ∀ u, u < 256 → (nI u).toInt8.toInt32 = cbv u := by decide +kernel
def BC (n : Nat) (B : Nat → Nat) (M : Mem) : Prop := n ≤ 96 ∧ M 61 1 = nI n ∧ ∀ j, j < n → B j < 256 ∧ M 62 j = cbv (B j)
def BM (n : Nat) (B : Nat → Nat) (N : Mem) : Prop := n ≤ 96 ∧ N 0 13 = nI n ∧ ∀ j, j < n → B j < 256 ∧ N 12 j = nI (B j)
def srt (n : Nat) (B : Nat → Nat) (j : Nat) : Nat := if j < n then (if 97 ≤ B j ∧ B j ≤ 122 then 1 else if 48 ≤ B j ∧ B j ≤ 57 then 2 else 3) else 0
theorem srt_l {n : Nat} {B : Nat → Nat} {j : Nat} (h : j < n) (h1 : 97 ≤ B j ∧ B j ≤ 122) : srt n B j = 1 := by
  unfold srt; rw [if_pos h, if_pos h1]
theorem srt_d {n : Nat} {B : Nat → Nat} {j : Nat} (h : j < n) (h1 : 48 ≤ B j ∧ B j ≤ 57) : srt n B j = 2 := by
  unfold srt; rw [if_pos h, if_neg (by omega), if_pos h1]
theorem srt_s {n : Nat} {B : Nat → Nat} {j : Nat} (h : j < n) (h1 : ¬ (97 ≤ B j ∧ B j ≤ 122)) (h2 : ¬ (48 ≤ B j ∧ B j ≤ 57)) : srt n B j = 3 := by
  unfold srt; rw [if_pos h, if_neg h1, if_neg h2]
theorem srt_e {n : Nat} {B : Nat → Nat} {j : Nat} (h : n ≤ j) : srt n B j = 0 := by
  unfold srt; rw [if_neg (by omega)]
theorem srt_c (n : Nat) (B : Nat → Nat) (j : Nat) : (srt n B j = 0 ∧ n ≤ j) ∨ (srt n B j = 1 ∧ j < n ∧ 97 ≤ B j ∧ B j ≤ 122) ∨ (srt n B j = 2 ∧ j < n ∧ 48 ≤ B j ∧ B j ≤ 57) ∨ (srt n B j = 3 ∧ j < n ∧ ¬ (97 ≤ B j ∧ B j ≤ 122) ∧ ¬ (48 ≤ B j ∧ B j ≤ 57)) := by
  by_cases h : j < n
  · by_cases h1 : 97 ≤ B j ∧ B j ≤ 122
    · exact Or.inr (Or.inl ⟨srt_l h h1, h, h1⟩)
    by_cases h2 : 48 ≤ B j ∧ B j ≤ 57
    · exact Or.inr (Or.inr (Or.inl ⟨srt_d h h2, h, h2⟩))
    exact Or.inr (Or.inr (Or.inr ⟨srt_s h h1 h2, h, h1, h2⟩))
  · exact Or.inl ⟨srt_e (by omega), by omega⟩
theorem c_sortAt {n : Nat} {B : Nat → Nat} {M : Mem} (h : BC n B M) (j : Nat) (hj : j ≤ 96) : f_X7_sortAt 61 (nI j) M = some (nI (srt n B j), M) := by
  obtain ⟨hn, h1, h2⟩ := h
  unfold f_X7_sortAt
  rcases srt_c n B j with ⟨e, q⟩ | ⟨e, q, q'⟩ | ⟨e, q, q'⟩ | ⟨e, q, q', q''⟩
  · rw [e]
    simp (maxSteps := 1000000) (disch := omega) only [vv_e, mm_e, jn_e, bd_e, bd_i, ld_i, st_i, la_i, sl_i, nI_add, pk_mul, pk_sub, ng_add, neg_neg_n, nlt, nle, neq, ng_lt, gn_lt, gg_lt, ng_le, gn_le, gg_le, ng_eq, gn_eq, gg_eq, dv_i, if_pos, if_neg, ite_tt, ite_ff, if_b2, if_b2n, l_0, l_1, l_2, l_3, l_4, l_5, l_6, l_7, l_8, l_9, l_10, l_11, l_12, l_13, l_16, l_20, l_24, l_30, l_32, l_33, l_38, l_42, l_43, l_45, l_47, l_48, l_50, l_57, l_60, l_61, l_62, l_96, l_97, l_99, l_100, l_102, l_105, l_110, l_121, l_122, l_124, l_128, l_200, l_255, l_270, l_350, l_360, l_400, l_440, l_490, l_500, l_999, l_1000, l_9999, l_10000, l_99999, l_100000, l_1000000, l_1000000001, l_1000000002, l_1000000003, l_1000000005, l_1000000011, l_1000000012, l_1000000013, l_1000000014, h1]
  all_goals
    obtain ⟨hu, eb⟩ := h2 j q
    unfold cbv at eb
    rw [e]
  · rw [if_pos (by omega)] at eb
    simp (maxSteps := 1000000) (disch := omega) only [vv_e, mm_e, jn_e, bd_e, bd_i, e1_0_0, e1_0_1, e1_0_3, e1_0_4, e1_0_6, e1_0_7, e1_1_0, e1_1_1, e1_1_2, e1_1_3, e1_1_4, e1_1_5, e1_1_9, e1_2_1, e1_2_3, e1_2_4, e1_2_5, e1_2_6, e1_2_7, e1_9_1, e1_9_2, e1_9_3, e1_9_4, e1_9_5, e1_9_6, e1_16_0, e1_16_1, e1_19_0, e1_19_2, e1_19_3, e1_19_4, e1_24_1, e1_24_2, e1_24_3, e1_24_5, e1_61_0, e1_61_6, ld_i, st_i, la_i, sl_i, nI_add, pk_mul, pk_sub, ng_add, neg_neg_n, nlt, nle, neq, ng_lt, gn_lt, gg_lt, ng_le, gn_le, gg_le, ng_eq, gn_eq, gg_eq, dv_i, if_pos, if_neg, ite_tt, ite_ff, if_b2, if_b2n, l_0, l_1, l_2, l_3, l_4, l_5, l_6, l_7, l_8, l_9, l_10, l_11, l_12, l_13, l_16, l_20, l_24, l_30, l_32, l_33, l_38, l_42, l_43, l_45, l_47, l_48, l_50, l_57, l_60, l_61, l_62, l_96, l_97, l_99, l_100, l_102, l_105, l_110, l_121, l_122, l_124, l_128, l_200, l_255, l_270, l_350, l_360, l_400, l_440, l_490, l_500, l_999, l_1000, l_9999, l_10000, l_99999, l_100000, l_1000000, l_1000000001, l_1000000002, l_1000000003, l_1000000005, l_1000000011, l_1000000012, l_1000000013, l_1000000014, h1, eb]
  · rw [if_pos (by omega)] at eb
    simp (maxSteps := 1000000) (disch := omega) only [vv_e, mm_e, jn_e, bd_e, bd_i, e1_0_0, e1_0_1, e1_0_3, e1_0_4, e1_0_6, e1_0_7, e1_1_0, e1_1_1, e1_1_2, e1_1_3, e1_1_4, e1_1_5, e1_1_9, e1_2_1, e1_2_3, e1_2_4, e1_2_5, e1_2_6, e1_2_7, e1_9_1, e1_9_2, e1_9_3, e1_9_4, e1_9_5, e1_9_6, e1_16_0, e1_16_1, e1_19_0, e1_19_2, e1_19_3, e1_19_4, e1_24_1, e1_24_2, e1_24_3, e1_24_5, e1_61_0, e1_61_6, ld_i, st_i, la_i, sl_i, nI_add, pk_mul, pk_sub, ng_add, neg_neg_n, nlt, nle, neq, ng_lt, gn_lt, gg_lt, ng_le, gn_le, gg_le, ng_eq, gn_eq, gg_eq, dv_i, if_pos, if_neg, ite_tt, ite_ff, if_b2, if_b2n, l_0, l_1, l_2, l_3, l_4, l_5, l_6, l_7, l_8, l_9, l_10, l_11, l_12, l_13, l_16, l_20, l_24, l_30, l_32, l_33, l_38, l_42, l_43, l_45, l_47, l_48, l_50, l_57, l_60, l_61, l_62, l_96, l_97, l_99, l_100, l_102, l_105, l_110, l_121, l_122, l_124, l_128, l_200, l_255, l_270, l_350, l_360, l_400, l_440, l_490, l_500, l_999, l_1000, l_9999, l_10000, l_99999, l_100000, l_1000000, l_1000000001, l_1000000002, l_1000000003, l_1000000005, l_1000000011, l_1000000012, l_1000000013, l_1000000014, h1, eb]
  · by_cases h7 : B j < 128
    · rw [if_pos h7] at eb
      rcases (show B j < 48 ∨ (57 < B j ∧ B j < 97) ∨ 122 < B j by omega) with c | c | c <;> simp (maxSteps := 1000000) (disch := omega) only [vv_e, mm_e, jn_e, bd_e, bd_i, e1_0_0, e1_0_1, e1_0_3, e1_0_4, e1_0_6, e1_0_7, e1_1_0, e1_1_1, e1_1_2, e1_1_3, e1_1_4, e1_1_5, e1_1_9, e1_2_1, e1_2_3, e1_2_4, e1_2_5, e1_2_6, e1_2_7, e1_9_1, e1_9_2, e1_9_3, e1_9_4, e1_9_5, e1_9_6, e1_16_0, e1_16_1, e1_19_0, e1_19_2, e1_19_3, e1_19_4, e1_24_1, e1_24_2, e1_24_3, e1_24_5, e1_61_0, e1_61_6, ld_i, st_i, la_i, sl_i, nI_add, pk_mul, pk_sub, ng_add, neg_neg_n, nlt, nle, neq, ng_lt, gn_lt, gg_lt, ng_le, gn_le, gg_le, ng_eq, gn_eq, gg_eq, dv_i, if_pos, if_neg, ite_tt, ite_ff, if_b2, if_b2n, l_0, l_1, l_2, l_3, l_4, l_5, l_6, l_7, l_8, l_9, l_10, l_11, l_12, l_13, l_16, l_20, l_24, l_30, l_32, l_33, l_38, l_42, l_43, l_45, l_47, l_48, l_50, l_57, l_60, l_61, l_62, l_96, l_97, l_99, l_100, l_102, l_105, l_110, l_121, l_122, l_124, l_128, l_200, l_255, l_270, l_350, l_360, l_400, l_440, l_490, l_500, l_999, l_1000, l_9999, l_10000, l_99999, l_100000, l_1000000, l_1000000001, l_1000000002, l_1000000003, l_1000000005, l_1000000011, l_1000000012, l_1000000013, l_1000000014, h1, eb]
    · rw [if_neg h7] at eb
      simp (maxSteps := 1000000) (disch := omega) only [vv_e, mm_e, jn_e, bd_e, bd_i, e1_0_0, e1_0_1, e1_0_3, e1_0_4, e1_0_6, e1_0_7, e1_1_0, e1_1_1, e1_1_2, e1_1_3, e1_1_4, e1_1_5, e1_1_9, e1_2_1, e1_2_3, e1_2_4, e1_2_5, e1_2_6, e1_2_7, e1_9_1, e1_9_2, e1_9_3, e1_9_4, e1_9_5, e1_9_6, e1_16_0, e1_16_1, e1_19_0, e1_19_2, e1_19_3, e1_19_4, e1_24_1, e1_24_2, e1_24_3, e1_24_5, e1_61_0, e1_61_6, ld_i, st_i, la_i, sl_i, nI_add, pk_mul, pk_sub, ng_add, neg_neg_n, nlt, nle, neq, ng_lt, gn_lt, gg_lt, ng_le, gn_le, gg_le, ng_eq, gn_eq, gg_eq, dv_i, if_pos, if_neg, ite_tt, ite_ff, if_b2, if_b2n, l_0, l_1, l_2, l_3, l_4, l_5, l_6, l_7, l_8, l_9, l_10, l_11, l_12, l_13, l_16, l_20, l_24, l_30, l_32, l_33, l_38, l_42, l_43, l_45, l_47, l_48, l_50, l_57, l_60, l_61, l_62, l_96, l_97, l_99, l_100, l_102, l_105, l_110, l_121, l_122, l_124, l_128, l_200, l_255, l_270, l_350, l_360, l_400, l_440, l_490, l_500, l_999, l_1000, l_9999, l_10000, l_99999, l_100000, l_1000000, l_1000000001, l_1000000002, l_1000000003, l_1000000005, l_1000000011, l_1000000012, l_1000000013, l_1000000014, h1, eb]
theorem m_isLetter {n : Nat} {B : Nat → Nat} {N : Mem} (h : BM n B N) (j : Nat) (hj : j ≤ 96) : f_X10_isLetter 0 (nI j) N = some (b2 (srt n B j = 1), N) := by
  obtain ⟨hn, h1, h2⟩ := h
  unfold f_X10_isLetter
  rcases srt_c n B j with ⟨e, q⟩ | ⟨e, q, q'⟩ | ⟨e, q, q'⟩ | ⟨e, q, q', q''⟩
  · rw [show b2 (srt n B j = 1) = nI 0 from if_neg (by omega)]
    simp (maxSteps := 1000000) (disch := omega) only [vv_e, mm_e, jn_e, bd_e, bd_i, ld_i, st_i, la_i, sl_i, nI_add, pk_mul, pk_sub, ng_add, neg_neg_n, nlt, nle, neq, ng_lt, gn_lt, gg_lt, ng_le, gn_le, gg_le, ng_eq, gn_eq, gg_eq, dv_i, if_pos, if_neg, ite_tt, ite_ff, if_b2, if_b2n, l_0, l_1, l_2, l_3, l_4, l_5, l_6, l_7, l_8, l_9, l_10, l_11, l_12, l_13, l_16, l_20, l_24, l_30, l_32, l_33, l_38, l_42, l_43, l_45, l_47, l_48, l_50, l_57, l_60, l_61, l_62, l_96, l_97, l_99, l_100, l_102, l_105, l_110, l_121, l_122, l_124, l_128, l_200, l_255, l_270, l_350, l_360, l_400, l_440, l_490, l_500, l_999, l_1000, l_9999, l_10000, l_99999, l_100000, l_1000000, l_1000000001, l_1000000002, l_1000000003, l_1000000005, l_1000000011, l_1000000012, l_1000000013, l_1000000014, h1]
  all_goals
    obtain ⟨hu, eb⟩ := h2 j q
  · rw [show b2 (srt n B j = 1) = nI 1 from if_pos e]
    simp (maxSteps := 1000000) (disch := omega) only [vv_e, mm_e, jn_e, bd_e, bd_i, e2_0_0, e2_0_1, e2_0_2, e2_0_4, e2_0_5, e2_0_6, e2_0_7, e2_0_8, e2_0_9, e2_0_10, e2_0_11, e2_0_12, e2_0_24, e2_0_25, e2_0_28, e2_0_29, e2_0_30, e2_0_34, e2_0_35, e2_0_36, e2_0_38, ld_i, st_i, la_i, sl_i, nI_add, pk_mul, pk_sub, ng_add, neg_neg_n, nlt, nle, neq, ng_lt, gn_lt, gg_lt, ng_le, gn_le, gg_le, ng_eq, gn_eq, gg_eq, dv_i, if_pos, if_neg, ite_tt, ite_ff, if_b2, if_b2n, l_0, l_1, l_2, l_3, l_4, l_5, l_6, l_7, l_8, l_9, l_10, l_11, l_12, l_13, l_16, l_20, l_24, l_30, l_32, l_33, l_38, l_42, l_43, l_45, l_47, l_48, l_50, l_57, l_60, l_61, l_62, l_96, l_97, l_99, l_100, l_102, l_105, l_110, l_121, l_122, l_124, l_128, l_200, l_255, l_270, l_350, l_360, l_400, l_440, l_490, l_500, l_999, l_1000, l_9999, l_10000, l_99999, l_100000, l_1000000, l_1000000001, l_1000000002, l_1000000003, l_1000000005, l_1000000011, l_1000000012, l_1000000013, l_1000000014, h1, eb, s_isInL (nI (B j)) 97 122 97 122 N rfl rfl]
  · rw [show b2 (srt n B j = 1) = nI 0 from if_neg (by omega)]
    simp (maxSteps := 1000000) (disch := omega) only [vv_e, mm_e, jn_e, bd_e, bd_i, e2_0_0, e2_0_1, e2_0_2, e2_0_4, e2_0_5, e2_0_6, e2_0_7, e2_0_8, e2_0_9, e2_0_10, e2_0_11, e2_0_12, e2_0_24, e2_0_25, e2_0_28, e2_0_29, e2_0_30, e2_0_34, e2_0_35, e2_0_36, e2_0_38, ld_i, st_i, la_i, sl_i, nI_add, pk_mul, pk_sub, ng_add, neg_neg_n, nlt, nle, neq, ng_lt, gn_lt, gg_lt, ng_le, gn_le, gg_le, ng_eq, gn_eq, gg_eq, dv_i, if_pos, if_neg, ite_tt, ite_ff, if_b2, if_b2n, l_0, l_1, l_2, l_3, l_4, l_5, l_6, l_7, l_8, l_9, l_10, l_11, l_12, l_13, l_16, l_20, l_24, l_30, l_32, l_33, l_38, l_42, l_43, l_45, l_47, l_48, l_50, l_57, l_60, l_61, l_62, l_96, l_97, l_99, l_100, l_102, l_105, l_110, l_121, l_122, l_124, l_128, l_200, l_255, l_270, l_350, l_360, l_400, l_440, l_490, l_500, l_999, l_1000, l_9999, l_10000, l_99999, l_100000, l_1000000, l_1000000001, l_1000000002, l_1000000003, l_1000000005, l_1000000011, l_1000000012, l_1000000013, l_1000000014, h1, eb, s_isInL (nI (B j)) 97 122 97 122 N rfl rfl]
  · rw [show b2 (srt n B j = 1) = nI 0 from if_neg (by omega)]
    simp (maxSteps := 1000000) (disch := omega) only [vv_e, mm_e, jn_e, bd_e, bd_i, e2_0_0, e2_0_1, e2_0_2, e2_0_4, e2_0_5, e2_0_6, e2_0_7, e2_0_8, e2_0_9, e2_0_10, e2_0_11, e2_0_12, e2_0_24, e2_0_25, e2_0_28, e2_0_29, e2_0_30, e2_0_34, e2_0_35, e2_0_36, e2_0_38, ld_i, st_i, la_i, sl_i, nI_add, pk_mul, pk_sub, ng_add, neg_neg_n, nlt, nle, neq, ng_lt, gn_lt, gg_lt, ng_le, gn_le, gg_le, ng_eq, gn_eq, gg_eq, dv_i, if_pos, if_neg, ite_tt, ite_ff, if_b2, if_b2n, l_0, l_1, l_2, l_3, l_4, l_5, l_6, l_7, l_8, l_9, l_10, l_11, l_12, l_13, l_16, l_20, l_24, l_30, l_32, l_33, l_38, l_42, l_43, l_45, l_47, l_48, l_50, l_57, l_60, l_61, l_62, l_96, l_97, l_99, l_100, l_102, l_105, l_110, l_121, l_122, l_124, l_128, l_200, l_255, l_270, l_350, l_360, l_400, l_440, l_490, l_500, l_999, l_1000, l_9999, l_10000, l_99999, l_100000, l_1000000, l_1000000001, l_1000000002, l_1000000003, l_1000000005, l_1000000011, l_1000000012, l_1000000013, l_1000000014, h1, eb, s_isInL (nI (B j)) 97 122 97 122 N rfl rfl]
theorem m_isDigit {n : Nat} {B : Nat → Nat} {N : Mem} (h : BM n B N) (j : Nat) (hj : j ≤ 96) : f_X10_isDigit 0 (nI j) N = some (b2 (srt n B j = 2), N) := by
  obtain ⟨hn, h1, h2⟩ := h
  unfold f_X10_isDigit
  rcases srt_c n B j with ⟨e, q⟩ | ⟨e, q, q'⟩ | ⟨e, q, q'⟩ | ⟨e, q, q', q''⟩
  · rw [show b2 (srt n B j = 2) = nI 0 from if_neg (by omega)]
    simp (maxSteps := 1000000) (disch := omega) only [vv_e, mm_e, jn_e, bd_e, bd_i, ld_i, st_i, la_i, sl_i, nI_add, pk_mul, pk_sub, ng_add, neg_neg_n, nlt, nle, neq, ng_lt, gn_lt, gg_lt, ng_le, gn_le, gg_le, ng_eq, gn_eq, gg_eq, dv_i, if_pos, if_neg, ite_tt, ite_ff, if_b2, if_b2n, l_0, l_1, l_2, l_3, l_4, l_5, l_6, l_7, l_8, l_9, l_10, l_11, l_12, l_13, l_16, l_20, l_24, l_30, l_32, l_33, l_38, l_42, l_43, l_45, l_47, l_48, l_50, l_57, l_60, l_61, l_62, l_96, l_97, l_99, l_100, l_102, l_105, l_110, l_121, l_122, l_124, l_128, l_200, l_255, l_270, l_350, l_360, l_400, l_440, l_490, l_500, l_999, l_1000, l_9999, l_10000, l_99999, l_100000, l_1000000, l_1000000001, l_1000000002, l_1000000003, l_1000000005, l_1000000011, l_1000000012, l_1000000013, l_1000000014, h1]
  all_goals
    obtain ⟨hu, eb⟩ := h2 j q
  · rw [show b2 (srt n B j = 2) = nI 0 from if_neg (by omega)]
    simp (maxSteps := 1000000) (disch := omega) only [vv_e, mm_e, jn_e, bd_e, bd_i, e2_0_0, e2_0_1, e2_0_2, e2_0_4, e2_0_5, e2_0_6, e2_0_7, e2_0_8, e2_0_9, e2_0_10, e2_0_11, e2_0_12, e2_0_24, e2_0_25, e2_0_28, e2_0_29, e2_0_30, e2_0_34, e2_0_35, e2_0_36, e2_0_38, ld_i, st_i, la_i, sl_i, nI_add, pk_mul, pk_sub, ng_add, neg_neg_n, nlt, nle, neq, ng_lt, gn_lt, gg_lt, ng_le, gn_le, gg_le, ng_eq, gn_eq, gg_eq, dv_i, if_pos, if_neg, ite_tt, ite_ff, if_b2, if_b2n, l_0, l_1, l_2, l_3, l_4, l_5, l_6, l_7, l_8, l_9, l_10, l_11, l_12, l_13, l_16, l_20, l_24, l_30, l_32, l_33, l_38, l_42, l_43, l_45, l_47, l_48, l_50, l_57, l_60, l_61, l_62, l_96, l_97, l_99, l_100, l_102, l_105, l_110, l_121, l_122, l_124, l_128, l_200, l_255, l_270, l_350, l_360, l_400, l_440, l_490, l_500, l_999, l_1000, l_9999, l_10000, l_99999, l_100000, l_1000000, l_1000000001, l_1000000002, l_1000000003, l_1000000005, l_1000000011, l_1000000012, l_1000000013, l_1000000014, h1, eb, s_isInL (nI (B j)) 48 57 48 57 N rfl rfl]
  · rw [show b2 (srt n B j = 2) = nI 1 from if_pos e]
    simp (maxSteps := 1000000) (disch := omega) only [vv_e, mm_e, jn_e, bd_e, bd_i, e2_0_0, e2_0_1, e2_0_2, e2_0_4, e2_0_5, e2_0_6, e2_0_7, e2_0_8, e2_0_9, e2_0_10, e2_0_11, e2_0_12, e2_0_24, e2_0_25, e2_0_28, e2_0_29, e2_0_30, e2_0_34, e2_0_35, e2_0_36, e2_0_38, ld_i, st_i, la_i, sl_i, nI_add, pk_mul, pk_sub, ng_add, neg_neg_n, nlt, nle, neq, ng_lt, gn_lt, gg_lt, ng_le, gn_le, gg_le, ng_eq, gn_eq, gg_eq, dv_i, if_pos, if_neg, ite_tt, ite_ff, if_b2, if_b2n, l_0, l_1, l_2, l_3, l_4, l_5, l_6, l_7, l_8, l_9, l_10, l_11, l_12, l_13, l_16, l_20, l_24, l_30, l_32, l_33, l_38, l_42, l_43, l_45, l_47, l_48, l_50, l_57, l_60, l_61, l_62, l_96, l_97, l_99, l_100, l_102, l_105, l_110, l_121, l_122, l_124, l_128, l_200, l_255, l_270, l_350, l_360, l_400, l_440, l_490, l_500, l_999, l_1000, l_9999, l_10000, l_99999, l_100000, l_1000000, l_1000000001, l_1000000002, l_1000000003, l_1000000005, l_1000000011, l_1000000012, l_1000000013, l_1000000014, h1, eb, s_isInL (nI (B j)) 48 57 48 57 N rfl rfl]
  · rw [show b2 (srt n B j = 2) = nI 0 from if_neg (by omega)]
    simp (maxSteps := 1000000) (disch := omega) only [vv_e, mm_e, jn_e, bd_e, bd_i, e2_0_0, e2_0_1, e2_0_2, e2_0_4, e2_0_5, e2_0_6, e2_0_7, e2_0_8, e2_0_9, e2_0_10, e2_0_11, e2_0_12, e2_0_24, e2_0_25, e2_0_28, e2_0_29, e2_0_30, e2_0_34, e2_0_35, e2_0_36, e2_0_38, ld_i, st_i, la_i, sl_i, nI_add, pk_mul, pk_sub, ng_add, neg_neg_n, nlt, nle, neq, ng_lt, gn_lt, gg_lt, ng_le, gn_le, gg_le, ng_eq, gn_eq, gg_eq, dv_i, if_pos, if_neg, ite_tt, ite_ff, if_b2, if_b2n, l_0, l_1, l_2, l_3, l_4, l_5, l_6, l_7, l_8, l_9, l_10, l_11, l_12, l_13, l_16, l_20, l_24, l_30, l_32, l_33, l_38, l_42, l_43, l_45, l_47, l_48, l_50, l_57, l_60, l_61, l_62, l_96, l_97, l_99, l_100, l_102, l_105, l_110, l_121, l_122, l_124, l_128, l_200, l_255, l_270, l_350, l_360, l_400, l_440, l_490, l_500, l_999, l_1000, l_9999, l_10000, l_99999, l_100000, l_1000000, l_1000000001, l_1000000002, l_1000000003, l_1000000005, l_1000000011, l_1000000012, l_1000000013, l_1000000014, h1, eb, s_isInL (nI (B j)) 48 57 48 57 N rfl rfl]
/-! what going on leaves alone -/
def FT (M M' : Mem) : Prop := (∀ q, q ≠ 61 → M' q = M q) ∧ ∀ f, f ≠ 8 → f ≠ 9 → f ≠ 10 → M' 61 f = M 61 f
def GT (N N' : Mem) : Prop := (∀ q, q ≠ 0 → N' q = N q) ∧ ∀ f, f < 14 ∨ 18 < f → N' 0 f = N 0 f
theorem FT.r {M : Mem} : FT M M := ⟨fun _ _ => rfl, fun _ _ _ _ => rfl⟩
theorem GT.r {N : Mem} : GT N N := ⟨fun _ _ => rfl, fun _ _ => rfl⟩
theorem FT.u {M M' : Mem} {k : Nat} {v : Int32} (h : FT M M') (hk : k = 8 ∨ k = 9 ∨ k = 10) : FT M (up M' 61 k v) := ⟨fun q hq => (up_ne hq).trans (h.1 q hq), fun f h8 h9 h10 => (up_k _ _ _ _ _ (by omega)).trans (h.2 f h8 h9 h10)⟩
theorem GT.u {N N' : Mem} {k : Nat} {v : Int32} (h : GT N N') (hk : 14 ≤ k ∧ k ≤ 18) : GT N (up N' 0 k v) := ⟨fun q hq => (up_ne hq).trans (h.1 q hq), fun f hf => (up_k _ _ _ _ _ (by omega)).trans (h.2 f hf)⟩
theorem FT.t {M M' M'' : Mem} (h : FT M M') (g : FT M' M'') : FT M M'' := ⟨fun q hq => (g.1 q hq).trans (h.1 q hq), fun f a b c => (g.2 f a b c).trans (h.2 f a b c)⟩
theorem GT.t {N N' N'' : Mem} (h : GT N N') (g : GT N' N'') : GT N N'' := ⟨fun q hq => (g.1 q hq).trans (h.1 q hq), fun f a => (g.2 f a).trans (h.2 f a)⟩
theorem BC.ft {n : Nat} {B : Nat → Nat} {M M' : Mem} (h : BC n B M) (g : FT M M') : BC n B M' := by
  obtain ⟨h1, h2, h3⟩ := h
  refine ⟨h1, (g.2 1 (by decide) (by decide) (by decide)).trans h2, fun j hj => ?_⟩
  rw [g.1 62 (by decide)]
  exact h3 j hj
theorem BM.gt {n : Nat} {B : Nat → Nat} {N N' : Mem} (h : BM n B N) (g : GT N N') : BM n B N' := by
  obtain ⟨h1, h2, h3⟩ := h
  refine ⟨h1, (g.2 13 (by decide)).trans h2, fun j hj => ?_⟩
  rw [g.1 12 (by decide)]
  exact h3 j hj
def Stop (p : Nat → Prop) (b a : Nat) : Prop := b ≤ a ∧ (∀ j, b ≤ j → j < a → p j) ∧ ¬ p a
theorem Stop.q {p : Nat → Prop} {b a c : Nat} (h : Stop p b a) (g : Stop p b c) : a = c := by
  obtain ⟨h1, h2, h3⟩ := h
  obtain ⟨g1, g2, g3⟩ := g
  rcases (show a < c ∨ a = c ∨ c < a by omega) with e | e | e
  · exact absurd (g2 a h1 e) h3
  · exact e
  · exact absurd (h2 c g1 e) g3
/-! the class goes on -/
def cF2 (v2 v11 : Int32) (M : Mem) : Option (Int32 × Mem) :=
  it0 (fun rc19 M =>
                vv (M 61 9) fun x20 =>
                vv (M 61 1) fun x21 =>
                jn (fun (M : Mem) =>
                  if v2 = 0 then
                    some (0, M)
                  else
                    if v11 = 0 then
                      mm (up M 61 10 4) fun M =>
                      some (0, M)
                    else
                      some (0, M)
                ) fun k22 =>
                if x20 < x21 then
                  vv (M 61 9) fun x23 =>
                  bd (f_X7_sortAt 61 x23 M) fun x24 M =>
                  vv (M 61 10) fun x25 =>
                  if x24 = x25 then
                    vv (M 61 9) fun x26 =>
                    mm (up M 61 9 (x26 + 1)) fun M =>
                    rc19 M
                  else
                    k22 M
                else
                  k22 M
              ) fuel M
def cT (v2 v11 : Int32) (M : Mem) : Option (Int32 × Mem) :=
          vv (M 61 8) fun x13 =>
          mm (up M 61 9 x13) fun M =>
          vv (M 61 8) fun x14 =>
          bd (f_X7_sortAt 61 x14 M) fun x15 M =>
          mm (up M 61 10 x15) fun M =>
          vv (M 61 10) fun x16 =>
          if x16 = 0 then
            some (0, M)
          else
            vv (M 61 9) fun x17 =>
            mm (up M 61 9 (x17 + 1)) fun M =>
            vv (M 61 10) fun x18 =>
            if x18 = 3 then
              some (0, M)
            else
              cF2 v2 v11 M
def cF1 (v2 : Int32) (M : Mem) : Option (Int32 × Mem) :=
    it0 (fun rc5 M =>
      vv (M 61 8) fun x6 =>
      vv (M 61 1) fun x7 =>
      jn (fun (M : Mem) =>
        vv (M 61 8) fun x9 =>
        vv (M 61 9) fun x10 =>
        jn (fun (v11 : Int32) (M : Mem) =>
          cT v2 v11 M
        ) fun k12 =>
        if x10 < x9 then
          k12 1 M
        else
          k12 0 M
      ) fun k8 =>
      if x6 < x7 then
        vv (grf G1 61 0) fun x27 =>
        vv (M 61 8) fun x28 =>
        ld M x27 x28 96 fun x29 =>
        if x29 = 32 then
          vv (M 61 8) fun x30 =>
          mm (up M 61 8 (x30 + 1)) fun M =>
          rc5 M
        else
          k8 M
      else
        k8 M
    ) fuel M
theorem fw_eq (M : Mem) : f_X7_forward 61 M = (if M 61 10 = 1 then cF1 1 (up M 61 8 (M 61 9)) else if M 61 10 = 2 then cF1 1 (up M 61 8 (M 61 9)) else cF1 0 (up M 61 8 (M 61 9))) := by
  have e : ∀ v2, (vv (M 61 9) fun x4 => mm (up M 61 8 x4) fun M => cF1 v2 M) = cF1 v2 (up M 61 8 (M 61 9)) := fun v2 => by rw [vv_e, mm_e]
  unfold f_X7_forward
  rw [vv_e, jn_e]
  by_cases h1 : M 61 10 = 1
  · rw [if_pos h1, if_pos h1]
    exact e 1
  · rw [if_neg h1, if_neg h1, vv_e]
    by_cases h2 : M 61 10 = 2
    · rw [if_pos h2, if_pos h2]
      exact e 1
    · rw [if_neg h2, if_neg h2]
      exact e 0
theorem c_f2 {n : Nat} {B : Nat → Nat} {M : Mem} {e0 t w2 w11 : Nat} (h : BC n B M) (he : e0 ≤ n) (h9 : M 61 9 = nI e0) (h10 : M 61 10 = nI t) (ht : t = 1 ∨ t = 2) (hw2 : w2 ≤ 1) (hw11 : w11 ≤ 1) :
    Res (fun _ M' => FT M M' ∧ M' 61 8 = M 61 8 ∧ ∃ e, Stop (fun j => srt n B j = t) e0 e ∧ e ≤ n ∧ M' 61 9 = nI e ∧ M' 61 10 = nI (if w2 = 1 ∧ w11 = 0 then 4 else t)) (cF2 (nI w2) (nI w11) M) := by
  have hn := h.1
  unfold cF2
  refine lo0 (fun m M1 => ∃ j, m + j = n ∧ e0 ≤ j ∧ (∀ i, e0 ≤ i → i < j → srt n B i = t) ∧ FT M M1 ∧ M1 61 8 = M 61 8 ∧ M1 61 9 = nI j ∧ M1 61 10 = nI t) ?_ fuel (n - e0) M (by show n - e0 < 5000; omega) ⟨e0, by omega, Nat.le_refl _, fun i a b => absurd b (by omega), FT.r, rfl, h9, h10⟩
  rintro m rc M1 ⟨j, hj, hj0, hp, hF, h8', h9', h10'⟩ ih
  have hB := h.ft hF
  have e1 := hB.2.1
  have hsA := c_sortAt hB j (by omega)
  by_cases hc : srt n B j = t
  · have hjn : j < n := by
      rcases srt_c n B j with ⟨e, q⟩ | ⟨e, q, q'⟩ | ⟨e, q, q'⟩ | ⟨e, q, q', q''⟩ <;> omega
    rw [hc] at hsA
    simp (maxSteps := 1000000) (disch := omega) only [vv_e, mm_e, jn_e, bd_e, bd_i, ld_i, st_i, la_i, sl_i, nI_add, pk_mul, pk_sub, ng_add, neg_neg_n, nlt, nle, neq, ng_lt, gn_lt, gg_lt, ng_le, gn_le, gg_le, ng_eq, gn_eq, gg_eq, dv_i, if_pos, if_neg, ite_tt, ite_ff, if_b2, if_b2n, l_0, l_1, l_2, l_3, l_4, l_5, l_6, l_7, l_8, l_9, l_10, l_11, l_12, l_13, l_16, l_20, l_24, l_30, l_32, l_33, l_38, l_42, l_43, l_45, l_47, l_48, l_50, l_57, l_60, l_61, l_62, l_96, l_97, l_99, l_100, l_102, l_105, l_110, l_121, l_122, l_124, l_128, l_200, l_255, l_270, l_350, l_360, l_400, l_440, l_490, l_500, l_999, l_1000, l_9999, l_10000, l_99999, l_100000, l_1000000, l_1000000001, l_1000000002, l_1000000003, l_1000000005, l_1000000011, l_1000000012, l_1000000013, l_1000000014, h9', e1, hsA, h10']
    refine ih (m - 1) _ (by omega) ⟨j + 1, by omega, by omega, fun i a b => ?_, hF.u (by omega), ?_, up_same _ _ _ _, ?_⟩
    · by_cases e : i = j
      · rw [e]; exact hc
      · exact hp i a (by omega)
    · rw [up_k _ _ _ _ _ (by decide)]; exact h8'
    · rw [up_k _ _ _ _ _ (by decide)]; exact h10'
  · have hst : Stop (fun j => srt n B j = t) e0 j := ⟨hj0, hp, hc⟩
    have hsb : srt n B j < 5 := by
      rcases srt_c n B j with ⟨e, q⟩ | ⟨e, q, q'⟩ | ⟨e, q, q'⟩ | ⟨e, q, q', q''⟩ <;> omega
    rcases (show w2 = 0 ∨ w2 = 1 by omega) with rfl | rfl
    · by_cases hjn : j < n
      · simp (maxSteps := 1000000) (disch := omega) only [vv_e, mm_e, jn_e, bd_e, bd_i, ld_i, st_i, la_i, sl_i, nI_add, pk_mul, pk_sub, ng_add, neg_neg_n, nlt, nle, neq, ng_lt, gn_lt, gg_lt, ng_le, gn_le, gg_le, ng_eq, gn_eq, gg_eq, dv_i, if_pos, if_neg, ite_tt, ite_ff, if_b2, if_b2n, l_0, l_1, l_2, l_3, l_4, l_5, l_6, l_7, l_8, l_9, l_10, l_11, l_12, l_13, l_16, l_20, l_24, l_30, l_32, l_33, l_38, l_42, l_43, l_45, l_47, l_48, l_50, l_57, l_60, l_61, l_62, l_96, l_97, l_99, l_100, l_102, l_105, l_110, l_121, l_122, l_124, l_128, l_200, l_255, l_270, l_350, l_360, l_400, l_440, l_490, l_500, l_999, l_1000, l_9999, l_10000, l_99999, l_100000, l_1000000, l_1000000001, l_1000000002, l_1000000003, l_1000000005, l_1000000011, l_1000000012, l_1000000013, l_1000000014, h9', e1, hsA, h10']
        exact Res.mk ⟨hF, h8', j, hst, by omega, h9', h10'⟩
      · simp (maxSteps := 1000000) (disch := omega) only [vv_e, mm_e, jn_e, bd_e, bd_i, ld_i, st_i, la_i, sl_i, nI_add, pk_mul, pk_sub, ng_add, neg_neg_n, nlt, nle, neq, ng_lt, gn_lt, gg_lt, ng_le, gn_le, gg_le, ng_eq, gn_eq, gg_eq, dv_i, if_pos, if_neg, ite_tt, ite_ff, if_b2, if_b2n, l_0, l_1, l_2, l_3, l_4, l_5, l_6, l_7, l_8, l_9, l_10, l_11, l_12, l_13, l_16, l_20, l_24, l_30, l_32, l_33, l_38, l_42, l_43, l_45, l_47, l_48, l_50, l_57, l_60, l_61, l_62, l_96, l_97, l_99, l_100, l_102, l_105, l_110, l_121, l_122, l_124, l_128, l_200, l_255, l_270, l_350, l_360, l_400, l_440, l_490, l_500, l_999, l_1000, l_9999, l_10000, l_99999, l_100000, l_1000000, l_1000000001, l_1000000002, l_1000000003, l_1000000005, l_1000000011, l_1000000012, l_1000000013, l_1000000014, h9', e1, h10']
        exact Res.mk ⟨hF, h8', j, hst, by omega, h9', h10'⟩
    rcases (show w11 = 0 ∨ w11 = 1 by omega) with rfl | rfl
    · by_cases hjn : j < n
      · simp (maxSteps := 1000000) (disch := omega) only [vv_e, mm_e, jn_e, bd_e, bd_i, ld_i, st_i, la_i, sl_i, nI_add, pk_mul, pk_sub, ng_add, neg_neg_n, nlt, nle, neq, ng_lt, gn_lt, gg_lt, ng_le, gn_le, gg_le, ng_eq, gn_eq, gg_eq, dv_i, if_pos, if_neg, ite_tt, ite_ff, if_b2, if_b2n, l_0, l_1, l_2, l_3, l_4, l_5, l_6, l_7, l_8, l_9, l_10, l_11, l_12, l_13, l_16, l_20, l_24, l_30, l_32, l_33, l_38, l_42, l_43, l_45, l_47, l_48, l_50, l_57, l_60, l_61, l_62, l_96, l_97, l_99, l_100, l_102, l_105, l_110, l_121, l_122, l_124, l_128, l_200, l_255, l_270, l_350, l_360, l_400, l_440, l_490, l_500, l_999, l_1000, l_9999, l_10000, l_99999, l_100000, l_1000000, l_1000000001, l_1000000002, l_1000000003, l_1000000005, l_1000000011, l_1000000012, l_1000000013, l_1000000014, h9', e1, hsA, h10']
        exact Res.mk ⟨hF.u (by omega), by rw [up_k _ _ _ _ _ (by decide)]; exact h8', j, hst, by omega, by rw [up_k _ _ _ _ _ (by decide)]; exact h9', up_same _ _ _ _⟩
      · simp (maxSteps := 1000000) (disch := omega) only [vv_e, mm_e, jn_e, bd_e, bd_i, ld_i, st_i, la_i, sl_i, nI_add, pk_mul, pk_sub, ng_add, neg_neg_n, nlt, nle, neq, ng_lt, gn_lt, gg_lt, ng_le, gn_le, gg_le, ng_eq, gn_eq, gg_eq, dv_i, if_pos, if_neg, ite_tt, ite_ff, if_b2, if_b2n, l_0, l_1, l_2, l_3, l_4, l_5, l_6, l_7, l_8, l_9, l_10, l_11, l_12, l_13, l_16, l_20, l_24, l_30, l_32, l_33, l_38, l_42, l_43, l_45, l_47, l_48, l_50, l_57, l_60, l_61, l_62, l_96, l_97, l_99, l_100, l_102, l_105, l_110, l_121, l_122, l_124, l_128, l_200, l_255, l_270, l_350, l_360, l_400, l_440, l_490, l_500, l_999, l_1000, l_9999, l_10000, l_99999, l_100000, l_1000000, l_1000000001, l_1000000002, l_1000000003, l_1000000005, l_1000000011, l_1000000012, l_1000000013, l_1000000014, h9', e1, h10']
        exact Res.mk ⟨hF.u (by omega), by rw [up_k _ _ _ _ _ (by decide)]; exact h8', j, hst, by omega, by rw [up_k _ _ _ _ _ (by decide)]; exact h9', up_same _ _ _ _⟩
    · by_cases hjn : j < n
      · simp (maxSteps := 1000000) (disch := omega) only [vv_e, mm_e, jn_e, bd_e, bd_i, ld_i, st_i, la_i, sl_i, nI_add, pk_mul, pk_sub, ng_add, neg_neg_n, nlt, nle, neq, ng_lt, gn_lt, gg_lt, ng_le, gn_le, gg_le, ng_eq, gn_eq, gg_eq, dv_i, if_pos, if_neg, ite_tt, ite_ff, if_b2, if_b2n, l_0, l_1, l_2, l_3, l_4, l_5, l_6, l_7, l_8, l_9, l_10, l_11, l_12, l_13, l_16, l_20, l_24, l_30, l_32, l_33, l_38, l_42, l_43, l_45, l_47, l_48, l_50, l_57, l_60, l_61, l_62, l_96, l_97, l_99, l_100, l_102, l_105, l_110, l_121, l_122, l_124, l_128, l_200, l_255, l_270, l_350, l_360, l_400, l_440, l_490, l_500, l_999, l_1000, l_9999, l_10000, l_99999, l_100000, l_1000000, l_1000000001, l_1000000002, l_1000000003, l_1000000005, l_1000000011, l_1000000012, l_1000000013, l_1000000014, h9', e1, hsA, h10']
        exact Res.mk ⟨hF, h8', j, hst, by omega, h9', h10'⟩
      · simp (maxSteps := 1000000) (disch := omega) only [vv_e, mm_e, jn_e, bd_e, bd_i, ld_i, st_i, la_i, sl_i, nI_add, pk_mul, pk_sub, ng_add, neg_neg_n, nlt, nle, neq, ng_lt, gn_lt, gg_lt, ng_le, gn_le, gg_le, ng_eq, gn_eq, gg_eq, dv_i, if_pos, if_neg, ite_tt, ite_ff, if_b2, if_b2n, l_0, l_1, l_2, l_3, l_4, l_5, l_6, l_7, l_8, l_9, l_10, l_11, l_12, l_13, l_16, l_20, l_24, l_30, l_32, l_33, l_38, l_42, l_43, l_45, l_47, l_48, l_50, l_57, l_60, l_61, l_62, l_96, l_97, l_99, l_100, l_102, l_105, l_110, l_121, l_122, l_124, l_128, l_200, l_255, l_270, l_350, l_360, l_400, l_440, l_490, l_500, l_999, l_1000, l_9999, l_10000, l_99999, l_100000, l_1000000, l_1000000001, l_1000000002, l_1000000003, l_1000000005, l_1000000011, l_1000000012, l_1000000013, l_1000000014, h9', e1, h10']
        exact Res.mk ⟨hF, h8', j, hst, by omega, h9', h10'⟩
def AtC (n : Nat) (B : Nat → Nat) (w2 w11 : Nat) (M M' : Mem) (a : Nat) : Prop := FT M M' ∧ M' 61 8 = nI a ∧ ∃ e t, M' 61 9 = nI e ∧ e ≤ n ∧ M' 61 10 = nI t ∧ ((srt n B a = 0 ∧ e = a ∧ t = 0) ∨ (srt n B a = 3 ∧ e = a + 1 ∧ t = 3) ∨ ((srt n B a = 1 ∨ srt n B a = 2) ∧ Stop (fun j => srt n B j = srt n B a) (a + 1) e ∧ t = if w2 = 1 ∧ w11 = 0 then 4 else srt n B a))
theorem c_t {n : Nat} {B : Nat → Nat} {M : Mem} {a w2 w11 : Nat} (h : BC n B M) (ha : a ≤ n) (h8 : M 61 8 = nI a) (hw2 : w2 ≤ 1) (hw11 : w11 ≤ 1) : Res (fun _ M' => AtC n B w2 w11 M M' a) (cT (nI w2) (nI w11) M) := by
  have hn := h.1
  have hB1 : BC n B (up M 61 9 (nI a)) := h.ft (FT.r.u (by omega))
  have hsA := c_sortAt hB1 a (by omega)
  unfold cT
  rcases srt_c n B a with ⟨e, q⟩ | ⟨e, q⟩ | ⟨e, q⟩ | ⟨e, q⟩
  · rw [e] at hsA
    simp (maxSteps := 1000000) (disch := omega) only [vv_e, mm_e, jn_e, bd_e, bd_i, ld_i, st_i, la_i, sl_i, nI_add, pk_mul, pk_sub, ng_add, neg_neg_n, nlt, nle, neq, ng_lt, gn_lt, gg_lt, ng_le, gn_le, gg_le, ng_eq, gn_eq, gg_eq, dv_i, if_pos, if_neg, ite_tt, ite_ff, if_b2, if_b2n, l_0, l_1, l_2, l_3, l_4, l_5, l_6, l_7, l_8, l_9, l_10, l_11, l_12, l_13, l_16, l_20, l_24, l_30, l_32, l_33, l_38, l_42, l_43, l_45, l_47, l_48, l_50, l_57, l_60, l_61, l_62, l_96, l_97, l_99, l_100, l_102, l_105, l_110, l_121, l_122, l_124, l_128, l_200, l_255, l_270, l_350, l_360, l_400, l_440, l_490, l_500, l_999, l_1000, l_9999, l_10000, l_99999, l_100000, l_1000000, l_1000000001, l_1000000002, l_1000000003, l_1000000005, l_1000000011, l_1000000012, l_1000000013, l_1000000014, up_a, up_k, up_same, h8, hsA]
    refine Res.mk ⟨(FT.r.u (by omega)).u (by omega), ?_, a, 0, ?_, by omega, up_same _ _ _ _, Or.inl ⟨e, rfl, rfl⟩⟩
    · simp (maxSteps := 1000000) (disch := omega) only [up_a, up_k, up_same, h8]
    · simp (maxSteps := 1000000) (disch := omega) only [up_a, up_k, up_same, h8]
  · rw [e] at hsA
    simp (maxSteps := 1000000) (disch := omega) only [vv_e, mm_e, jn_e, bd_e, bd_i, ld_i, st_i, la_i, sl_i, nI_add, pk_mul, pk_sub, ng_add, neg_neg_n, nlt, nle, neq, ng_lt, gn_lt, gg_lt, ng_le, gn_le, gg_le, ng_eq, gn_eq, gg_eq, dv_i, if_pos, if_neg, ite_tt, ite_ff, if_b2, if_b2n, l_0, l_1, l_2, l_3, l_4, l_5, l_6, l_7, l_8, l_9, l_10, l_11, l_12, l_13, l_16, l_20, l_24, l_30, l_32, l_33, l_38, l_42, l_43, l_45, l_47, l_48, l_50, l_57, l_60, l_61, l_62, l_96, l_97, l_99, l_100, l_102, l_105, l_110, l_121, l_122, l_124, l_128, l_200, l_255, l_270, l_350, l_360, l_400, l_440, l_490, l_500, l_999, l_1000, l_9999, l_10000, l_99999, l_100000, l_1000000, l_1000000001, l_1000000002, l_1000000003, l_1000000005, l_1000000011, l_1000000012, l_1000000013, l_1000000014, up_a, up_k, up_same, h8, hsA]
    refine (c_f2 (e0 := a + 1) (t := 1) (h.ft (((FT.r.u (by omega)).u (by omega)).u (by omega))) (by omega) (up_same _ _ _ _) (by simp (maxSteps := 1000000) (disch := omega) only [up_a, up_k, up_same]) (Or.inl rfl) hw2 hw11).imp ?_
    rintro _ M' ⟨f1, f2, e1, f3, f4, f5, f6⟩
    refine ⟨(((FT.r.u (by omega)).u (by omega)).u (by omega) : FT M _).t f1, ?_, e1, _, f5, f4, f6, Or.inr (Or.inr ⟨Or.inl e, ?_, ?_⟩)⟩
    · rw [f2]; simp (maxSteps := 1000000) (disch := omega) only [up_a, up_k, up_same, h8]
    · rw [e]; exact f3
    · rw [e]
  · rw [e] at hsA
    simp (maxSteps := 1000000) (disch := omega) only [vv_e, mm_e, jn_e, bd_e, bd_i, ld_i, st_i, la_i, sl_i, nI_add, pk_mul, pk_sub, ng_add, neg_neg_n, nlt, nle, neq, ng_lt, gn_lt, gg_lt, ng_le, gn_le, gg_le, ng_eq, gn_eq, gg_eq, dv_i, if_pos, if_neg, ite_tt, ite_ff, if_b2, if_b2n, l_0, l_1, l_2, l_3, l_4, l_5, l_6, l_7, l_8, l_9, l_10, l_11, l_12, l_13, l_16, l_20, l_24, l_30, l_32, l_33, l_38, l_42, l_43, l_45, l_47, l_48, l_50, l_57, l_60, l_61, l_62, l_96, l_97, l_99, l_100, l_102, l_105, l_110, l_121, l_122, l_124, l_128, l_200, l_255, l_270, l_350, l_360, l_400, l_440, l_490, l_500, l_999, l_1000, l_9999, l_10000, l_99999, l_100000, l_1000000, l_1000000001, l_1000000002, l_1000000003, l_1000000005, l_1000000011, l_1000000012, l_1000000013, l_1000000014, up_a, up_k, up_same, h8, hsA]
    refine (c_f2 (e0 := a + 1) (t := 2) (h.ft (((FT.r.u (by omega)).u (by omega)).u (by omega))) (by omega) (up_same _ _ _ _) (by simp (maxSteps := 1000000) (disch := omega) only [up_a, up_k, up_same]) (Or.inr rfl) hw2 hw11).imp ?_
    rintro _ M' ⟨f1, f2, e1, f3, f4, f5, f6⟩
    refine ⟨(((FT.r.u (by omega)).u (by omega)).u (by omega) : FT M _).t f1, ?_, e1, _, f5, f4, f6, Or.inr (Or.inr ⟨Or.inr e, ?_, ?_⟩)⟩
    · rw [f2]; simp (maxSteps := 1000000) (disch := omega) only [up_a, up_k, up_same, h8]
    · rw [e]; exact f3
    · rw [e]
  · rw [e] at hsA
    simp (maxSteps := 1000000) (disch := omega) only [vv_e, mm_e, jn_e, bd_e, bd_i, ld_i, st_i, la_i, sl_i, nI_add, pk_mul, pk_sub, ng_add, neg_neg_n, nlt, nle, neq, ng_lt, gn_lt, gg_lt, ng_le, gn_le, gg_le, ng_eq, gn_eq, gg_eq, dv_i, if_pos, if_neg, ite_tt, ite_ff, if_b2, if_b2n, l_0, l_1, l_2, l_3, l_4, l_5, l_6, l_7, l_8, l_9, l_10, l_11, l_12, l_13, l_16, l_20, l_24, l_30, l_32, l_33, l_38, l_42, l_43, l_45, l_47, l_48, l_50, l_57, l_60, l_61, l_62, l_96, l_97, l_99, l_100, l_102, l_105, l_110, l_121, l_122, l_124, l_128, l_200, l_255, l_270, l_350, l_360, l_400, l_440, l_490, l_500, l_999, l_1000, l_9999, l_10000, l_99999, l_100000, l_1000000, l_1000000001, l_1000000002, l_1000000003, l_1000000005, l_1000000011, l_1000000012, l_1000000013, l_1000000014, up_a, up_k, up_same, h8, hsA]
    refine Res.mk ⟨((FT.r.u (by omega)).u (by omega)).u (by omega), ?_, a + 1, 3, up_same _ _ _ _, by omega, ?_, Or.inr (Or.inl ⟨e, rfl, rfl⟩)⟩
    · simp (maxSteps := 1000000) (disch := omega) only [up_a, up_k, up_same, h8]
    · simp (maxSteps := 1000000) (disch := omega) only [up_a, up_k, up_same, h8]
theorem c_f1 {n : Nat} {B : Nat → Nat} {M : Mem} {b w2 : Nat} (h : BC n B M) (hb : b ≤ n) (h8 : M 61 8 = nI b) (h9 : M 61 9 = nI b) (hw2 : w2 ≤ 1) :
    Res (fun _ M' => ∃ a, a ≤ n ∧ Stop (fun j => j < n ∧ B j = 32) b a ∧ AtC n B w2 (if b < a then 1 else 0) M M' a) (cF1 (nI w2) M) := by
  have hn := h.1
  unfold cF1
  refine lo0 (fun m M1 => ∃ j, m + j = n ∧ b ≤ j ∧ (∀ i, b ≤ i → i < j → i < n ∧ B i = 32) ∧ FT M M1 ∧ M1 61 8 = nI j ∧ M1 61 9 = nI b) ?_ fuel (n - b) M (by show n - b < 5000; omega) ⟨b, by omega, Nat.le_refl _, fun i a c => absurd c (by omega), FT.r, h8, h9⟩
  rintro m rc M1 ⟨j, hj, hj0, hp, hF, h8', h9'⟩ ih
  have hB := h.ft hF
  have e1 := hB.2.1
  by_cases hc : j < n ∧ B j = 32
  · obtain ⟨hu, eb⟩ := hB.2.2 j hc.1
    rw [hc.2] at eb
    have eb : M1 62 j = nI 32 := eb
    simp (maxSteps := 1000000) (disch := omega) only [vv_e, mm_e, jn_e, bd_e, bd_i, e1_0_0, e1_0_1, e1_0_3, e1_0_4, e1_0_6, e1_0_7, e1_1_0, e1_1_1, e1_1_2, e1_1_3, e1_1_4, e1_1_5, e1_1_9, e1_2_1, e1_2_3, e1_2_4, e1_2_5, e1_2_6, e1_2_7, e1_9_1, e1_9_2, e1_9_3, e1_9_4, e1_9_5, e1_9_6, e1_16_0, e1_16_1, e1_19_0, e1_19_2, e1_19_3, e1_19_4, e1_24_1, e1_24_2, e1_24_3, e1_24_5, e1_61_0, e1_61_6, ld_i, st_i, la_i, sl_i, nI_add, pk_mul, pk_sub, ng_add, neg_neg_n, nlt, nle, neq, ng_lt, gn_lt, gg_lt, ng_le, gn_le, gg_le, ng_eq, gn_eq, gg_eq, dv_i, if_pos, if_neg, ite_tt, ite_ff, if_b2, if_b2n, l_0, l_1, l_2, l_3, l_4, l_5, l_6, l_7, l_8, l_9, l_10, l_11, l_12, l_13, l_16, l_20, l_24, l_30, l_32, l_33, l_38, l_42, l_43, l_45, l_47, l_48, l_50, l_57, l_60, l_61, l_62, l_96, l_97, l_99, l_100, l_102, l_105, l_110, l_121, l_122, l_124, l_128, l_200, l_255, l_270, l_350, l_360, l_400, l_440, l_490, l_500, l_999, l_1000, l_9999, l_10000, l_99999, l_100000, l_1000000, l_1000000001, l_1000000002, l_1000000003, l_1000000005, l_1000000011, l_1000000012, l_1000000013, l_1000000014, h8', e1, eb]
    refine ih (m - 1) _ (by omega) ⟨j + 1, by omega, by omega, fun i a c => ?_, hF.u (by omega), up_same _ _ _ _, ?_⟩
    · by_cases e : i = j
      · rw [e]; exact hc
      · exact hp i a (by omega)
    · rw [up_k _ _ _ _ _ (by decide)]; exact h9'
  · have hst : Stop (fun j => j < n ∧ B j = 32) b j := ⟨hj0, hp, hc⟩
    have fin : Res (fun _ M' => ∃ a, a ≤ n ∧ Stop (fun j => j < n ∧ B j = 32) b a ∧ AtC n B w2 (if b < a then 1 else 0) M M' a) (if nI b < nI j then cT (nI w2) (nI 1) M1 else cT (nI w2) (nI 0) M1) := by
      by_cases hbj : b < j
      · simp (maxSteps := 1000000) (disch := omega) only [ld_i, st_i, la_i, sl_i, nI_add, pk_mul, pk_sub, ng_add, neg_neg_n, nlt, nle, neq, ng_lt, gn_lt, gg_lt, ng_le, gn_le, gg_le, ng_eq, gn_eq, gg_eq, dv_i, if_pos, if_neg, ite_tt, ite_ff, if_b2, if_b2n, l_0, l_1, l_2, l_3, l_4, l_5, l_6, l_7, l_8, l_9, l_10, l_11, l_12, l_13, l_16, l_20, l_24, l_30, l_32, l_33, l_38, l_42, l_43, l_45, l_47, l_48, l_50, l_57, l_60, l_61, l_62, l_96, l_97, l_99, l_100, l_102, l_105, l_110, l_121, l_122, l_124, l_128, l_200, l_255, l_270, l_350, l_360, l_400, l_440, l_490, l_500, l_999, l_1000, l_9999, l_10000, l_99999, l_100000, l_1000000, l_1000000001, l_1000000002, l_1000000003, l_1000000005, l_1000000011, l_1000000012, l_1000000013, l_1000000014]
        refine (c_t hB (by omega) h8' hw2 (by omega)).imp (fun _ M' g => ⟨j, by omega, hst, ?_⟩)
        rw [if_pos hbj]
        exact ⟨hF.t g.1, g.2⟩
      · simp (maxSteps := 1000000) (disch := omega) only [ld_i, st_i, la_i, sl_i, nI_add, pk_mul, pk_sub, ng_add, neg_neg_n, nlt, nle, neq, ng_lt, gn_lt, gg_lt, ng_le, gn_le, gg_le, ng_eq, gn_eq, gg_eq, dv_i, if_pos, if_neg, ite_tt, ite_ff, if_b2, if_b2n, l_0, l_1, l_2, l_3, l_4, l_5, l_6, l_7, l_8, l_9, l_10, l_11, l_12, l_13, l_16, l_20, l_24, l_30, l_32, l_33, l_38, l_42, l_43, l_45, l_47, l_48, l_50, l_57, l_60, l_61, l_62, l_96, l_97, l_99, l_100, l_102, l_105, l_110, l_121, l_122, l_124, l_128, l_200, l_255, l_270, l_350, l_360, l_400, l_440, l_490, l_500, l_999, l_1000, l_9999, l_10000, l_99999, l_100000, l_1000000, l_1000000001, l_1000000002, l_1000000003, l_1000000005, l_1000000011, l_1000000012, l_1000000013, l_1000000014]
        refine (c_t hB (by omega) h8' hw2 (by omega)).imp (fun _ M' g => ⟨j, by omega, hst, ?_⟩)
        rw [if_neg hbj]
        exact ⟨hF.t g.1, g.2⟩
    by_cases hjn : j < n
    · obtain ⟨hu, eb⟩ := hB.2.2 j hjn
      have hne : ¬ M1 62 j = nI 32 := by
        rw [eb]
        unfold cbv
        by_cases h7 : B j < 128
        · rw [if_pos h7, neq (by omega) (by omega)]; omega
        · rw [if_neg h7, gn_eq (by omega) (by omega)]; omega
      rw [vv_e, vv_e, jn_e, h8', e1, if_pos (show nI j < nI n by rw [nlt (by omega) (by omega)]; exact hjn)]
      rw [vv_e, e1_61_0, vv_e, ld_i (by omega) (by omega), if_neg (show ¬ M1 62 j = 32 from hne)]
      show Res _ (vv (M1 61 8) _)
      rw [vv_e, vv_e, jn_e, h8', h9']
      exact fin
    · rw [vv_e, vv_e, jn_e, h8', e1, if_neg (show ¬ nI j < nI n by rw [nlt (by omega) (by omega)]; exact hjn)]
      show Res _ (vv (M1 61 8) _)
      rw [vv_e, vv_e, jn_e, h8', h9']
      exact fin
theorem c_forward {n : Nat} {B : Nat → Nat} {M : Mem} {b s : Nat} (h : BC n B M) (hb : b ≤ n) (h9 : M 61 9 = nI b) (h10 : M 61 10 = nI s) (hs : s < 5) :
    Res (fun _ M' => ∃ a, a ≤ n ∧ Stop (fun j => j < n ∧ B j = 32) b a ∧ AtC n B (if s = 1 ∨ s = 2 then 1 else 0) (if b < a then 1 else 0) M M' a) (f_X7_forward 61 M) := by
  rw [fw_eq, h9, h10]
  have hF : FT M (up M 61 8 (nI b)) := FT.r.u (by omega)
  have main : ∀ w2, w2 ≤ 1 → Res (fun _ M' => ∃ a, a ≤ n ∧ Stop (fun j => j < n ∧ B j = 32) b a ∧ AtC n B w2 (if b < a then 1 else 0) M M' a) (cF1 (nI w2) (up M 61 8 (nI b))) := by
    intro w2 hw
    refine (c_f1 (h.ft hF) hb (up_same _ _ _ _) ((up_k _ _ _ _ _ (by decide)).trans h9) hw).imp ?_
    rintro _ M' ⟨a, h1, h2, h3⟩
    exact ⟨a, h1, h2, hF.t h3.1, h3.2⟩
  by_cases hw : s = 1 ∨ s = 2
  · rw [if_pos hw]
    rcases hw with rfl | rfl
    · simp (maxSteps := 1000000) (disch := omega) only [ld_i, st_i, la_i, sl_i, nI_add, pk_mul, pk_sub, ng_add, neg_neg_n, nlt, nle, neq, ng_lt, gn_lt, gg_lt, ng_le, gn_le, gg_le, ng_eq, gn_eq, gg_eq, dv_i, if_pos, if_neg, ite_tt, ite_ff, if_b2, if_b2n, l_0, l_1, l_2, l_3, l_4, l_5, l_6, l_7, l_8, l_9, l_10, l_11, l_12, l_13, l_16, l_20, l_24, l_30, l_32, l_33, l_38, l_42, l_43, l_45, l_47, l_48, l_50, l_57, l_60, l_61, l_62, l_96, l_97, l_99, l_100, l_102, l_105, l_110, l_121, l_122, l_124, l_128, l_200, l_255, l_270, l_350, l_360, l_400, l_440, l_490, l_500, l_999, l_1000, l_9999, l_10000, l_99999, l_100000, l_1000000, l_1000000001, l_1000000002, l_1000000003, l_1000000005, l_1000000011, l_1000000012, l_1000000013, l_1000000014]
      exact main 1 (by omega)
    · simp (maxSteps := 1000000) (disch := omega) only [ld_i, st_i, la_i, sl_i, nI_add, pk_mul, pk_sub, ng_add, neg_neg_n, nlt, nle, neq, ng_lt, gn_lt, gg_lt, ng_le, gn_le, gg_le, ng_eq, gn_eq, gg_eq, dv_i, if_pos, if_neg, ite_tt, ite_ff, if_b2, if_b2n, l_0, l_1, l_2, l_3, l_4, l_5, l_6, l_7, l_8, l_9, l_10, l_11, l_12, l_13, l_16, l_20, l_24, l_30, l_32, l_33, l_38, l_42, l_43, l_45, l_47, l_48, l_50, l_57, l_60, l_61, l_62, l_96, l_97, l_99, l_100, l_102, l_105, l_110, l_121, l_122, l_124, l_128, l_200, l_255, l_270, l_350, l_360, l_400, l_440, l_490, l_500, l_999, l_1000, l_9999, l_10000, l_99999, l_100000, l_1000000, l_1000000001, l_1000000002, l_1000000003, l_1000000005, l_1000000011, l_1000000012, l_1000000013, l_1000000014]
      exact main 1 (by omega)
  · rw [if_neg hw]
    simp (maxSteps := 1000000) (disch := omega) only [ld_i, st_i, la_i, sl_i, nI_add, pk_mul, pk_sub, ng_add, neg_neg_n, nlt, nle, neq, ng_lt, gn_lt, gg_lt, ng_le, gn_le, gg_le, ng_eq, gn_eq, gg_eq, dv_i, if_pos, if_neg, ite_tt, ite_ff, if_b2, if_b2n, l_0, l_1, l_2, l_3, l_4, l_5, l_6, l_7, l_8, l_9, l_10, l_11, l_12, l_13, l_16, l_20, l_24, l_30, l_32, l_33, l_38, l_42, l_43, l_45, l_47, l_48, l_50, l_57, l_60, l_61, l_62, l_96, l_97, l_99, l_100, l_102, l_105, l_110, l_121, l_122, l_124, l_128, l_200, l_255, l_270, l_350, l_360, l_400, l_440, l_490, l_500, l_999, l_1000, l_9999, l_10000, l_99999, l_100000, l_1000000, l_1000000001, l_1000000002, l_1000000003, l_1000000005, l_1000000011, l_1000000012, l_1000000013, l_1000000014]
    exact main 0 (by omega)
