theorem bd_v (x : Option (Int32 × Mem)) : (bd x fun r M => some (r, M)) = x := by cases x <;> rfl
theorem bd_b {k : Int32 → Mem → Option (Int32 × Mem)} (x : Option (Int32 × Mem)) {l : Int32 → Mem → Option (Int32 × Mem)} : bd (bd x k) l = bd x fun r M => bd (k r M) l := by cases x <;> rfl
theorem lgc_lt' (a b : Int64) : (lg_cmp a b < nI 0) = (a < b) := lgc_lt a b
theorem lgc_gt' (a b : Int64) : (nI 0 < lg_cmp a b) = (b < a) := lgc_gt a b
theorem w64a (w : Int32) (v m : Nat) (hv : v < 10000) (hm : m < 100) : (Int32.toInt64 w - Int32.toInt64 (nI v) < Int32.toInt64 (-nI m)) = (w.toInt - (v : Int) < -(m : Int)) := by
  apply propext
  rw [Int64.lt_iff_toInt_lt, d64, Int32.toInt_toInt64, nI_toInt (by omega), ng_toInt (by omega)]
theorem w64b (w : Int32) (v m : Nat) (hv : v < 10000) (hm : m < 100) : (Int32.toInt64 (nI m) < Int32.toInt64 w - Int32.toInt64 (nI v)) = ((m : Int) < w.toInt - (v : Int)) := by
  apply propext
  rw [Int64.lt_iff_toInt_lt, d64, Int32.toInt_toInt64, nI_toInt (by omega), nI_toInt (by omega)]
theorem y_in50 (w : Int32) (v : Nat) (hv : v < 10000) (N : Mem) : f_X10_isIn (Int32.toInt64 w - Int32.toInt64 (nI v)) (-50) 50 N = some (b2 (-50 ≤ w.toInt - (v : Int) ∧ w.toInt - (v : Int) ≤ 50), N) := by
  unfold f_X10_isIn
  have e1 : (Int32.toInt64 w - Int32.toInt64 (nI v) < (-50 : Int64)) = (w.toInt - (v : Int) < -50) := w64a w v 50 hv (by decide)
  have e2 : ((50 : Int64) < Int32.toInt64 w - Int32.toInt64 (nI v)) = (50 < w.toInt - (v : Int)) := w64b w v 50 hv (by decide)
  simp only [lgc_lt, lgc_gt, e1, e2]
  by_cases h1 : w.toInt - (v : Int) < -50
  · rw [if_pos h1, b2_f (by omega)]; rfl
  · rw [if_neg h1]
    by_cases h2 : 50 < w.toInt - (v : Int)
    · rw [if_pos h2, b2_f (by omega)]; rfl
    · rw [if_neg h2, b2_t (by omega)]; rfl
section
variable {nT nF nX nC nE nL nS b : Nat} {M N : Mem}
theorem fits_06 (hb : b = 1 ∨ b = 31) (h : RS nT nF nX nC nE nL nS M b (N 1)) {f : Nat} (hf : f < nF) {kd : Nat} (hk : kd = 0 ∨ kd = 6) : ∃ v, (v = nI 0 ∨ v = nI 1) ∧ OkC M v (f_X6_fits b (nI f) (nI kd) M) ∧ OkM N v (f_X10_fits 0 (nI f) (nI kd) N) := by
  obtain ⟨hT, hF, hX, -⟩ := id h
  obtain ⟨f1, f2, f3, f4⟩ := id hF
  obtain ⟨t, k, v, p, q1, q2, q3, q4, q5, a1, a2, a3, a4, c1, c2, c3, c4, c5, c6⟩ := hF.fig hf
  have e2 := y_cnt hX (nI t)
  refine ⟨nI 1, Or.inr rfl, ?_, ?_⟩
  · unfold f_X6_fits
    rcases c6 with c6 | ⟨f', hf', c6⟩
    · simp (maxSteps := 1000000) (disch := omega) only [vv_e, mm_e, jn_e, bd_e, bd_i, gb_0_0, gb_0_1, gb_0_2, gb_0_3, gb_0_4, gb_0_5, gb_0_9, gb_1_1, gb_1_3, gb_1_4, gb_1_5, gb_1_6, gb_1_7, gb_8_1, gb_8_2, gb_8_3, gb_8_4, gb_8_5, gb_8_6, gb_15_0, gb_15_1, gb_18_0, gb_18_2, gb_18_3, gb_18_4, gb_23_1, gb_23_2, gb_23_3, gb_23_5, s_has, f1, ld_i, st_i, la_i, sl_i, nI_add, pk_mul, pk_sub, ng_add, neg_neg_n, nlt, nle, neq, ng_lt, gn_lt, gg_lt, ng_le, gn_le, gg_le, ng_eq, gn_eq, gg_eq, dv_i, if_pos, if_neg, ite_tt, ite_ff, if_b2, if_b2n, l_0, l_1, l_2, l_3, l_4, l_5, l_6, l_7, l_8, l_9, l_10, l_11, l_12, l_13, l_16, l_20, l_24, l_30, l_32, l_33, l_38, l_42, l_43, l_45, l_47, l_48, l_50, l_57, l_60, l_61, l_62, l_96, l_97, l_99, l_100, l_102, l_105, l_110, l_121, l_122, l_124, l_128, l_200, l_255, l_270, l_350, l_360, l_400, l_440, l_490, l_500, l_999, l_1000, l_9999, l_10000, l_99999, l_100000, l_1000000, l_1000000001, l_1000000002, l_1000000003, l_1000000005, l_1000000011, l_1000000012, l_1000000013, l_1000000014, a3, c6, ite_self]
      exact OkC.mk Ec.rfl'
    · simp (maxSteps := 1000000) (disch := omega) only [vv_e, mm_e, jn_e, bd_e, bd_i, gb_0_0, gb_0_1, gb_0_2, gb_0_3, gb_0_4, gb_0_5, gb_0_9, gb_1_1, gb_1_3, gb_1_4, gb_1_5, gb_1_6, gb_1_7, gb_8_1, gb_8_2, gb_8_3, gb_8_4, gb_8_5, gb_8_6, gb_15_0, gb_15_1, gb_18_0, gb_18_2, gb_18_3, gb_18_4, gb_23_1, gb_23_2, gb_23_3, gb_23_5, s_has, f1, ld_i, st_i, la_i, sl_i, nI_add, pk_mul, pk_sub, ng_add, neg_neg_n, nlt, nle, neq, ng_lt, gn_lt, gg_lt, ng_le, gn_le, gg_le, ng_eq, gn_eq, gg_eq, dv_i, if_pos, if_neg, ite_tt, ite_ff, if_b2, if_b2n, l_0, l_1, l_2, l_3, l_4, l_5, l_6, l_7, l_8, l_9, l_10, l_11, l_12, l_13, l_16, l_20, l_24, l_30, l_32, l_33, l_38, l_42, l_43, l_45, l_47, l_48, l_50, l_57, l_60, l_61, l_62, l_96, l_97, l_99, l_100, l_102, l_105, l_110, l_121, l_122, l_124, l_128, l_200, l_255, l_270, l_350, l_360, l_400, l_440, l_490, l_500, l_999, l_1000, l_9999, l_10000, l_99999, l_100000, l_1000000, l_1000000001, l_1000000002, l_1000000003, l_1000000005, l_1000000011, l_1000000012, l_1000000013, l_1000000014, a3, c6, ite_self]
      exact OkC.mk Ec.rfl'
  · unfold f_X10_fits f_X10_figureAt
    rcases c6 with c6 | ⟨f', hf', c6⟩
    · simp (maxSteps := 1000000) (disch := omega) only [vv_e, mm_e, jn_e, bd_e, bd_i, e2_0_0, e2_0_1, e2_0_2, e2_0_4, e2_0_5, e2_0_6, e2_0_7, e2_0_8, e2_0_9, e2_0_10, e2_0_11, e2_0_12, e2_0_24, e2_0_25, e2_0_28, e2_0_29, e2_0_30, e2_0_34, e2_0_35, e2_0_36, e2_0_38, ld_i, st_i, la_i, sl_i, nI_add, pk_mul, pk_sub, ng_add, neg_neg_n, nlt, nle, neq, ng_lt, gn_lt, gg_lt, ng_le, gn_le, gg_le, ng_eq, gn_eq, gg_eq, dv_i, if_pos, if_neg, ite_tt, ite_ff, if_b2, if_b2n, l_0, l_1, l_2, l_3, l_4, l_5, l_6, l_7, l_8, l_9, l_10, l_11, l_12, l_13, l_16, l_20, l_24, l_30, l_32, l_33, l_38, l_42, l_43, l_45, l_47, l_48, l_50, l_57, l_60, l_61, l_62, l_96, l_97, l_99, l_100, l_102, l_105, l_110, l_121, l_122, l_124, l_128, l_200, l_255, l_270, l_350, l_360, l_400, l_440, l_490, l_500, l_999, l_1000, l_9999, l_10000, l_99999, l_100000, l_1000000, l_1000000001, l_1000000002, l_1000000003, l_1000000005, l_1000000011, l_1000000012, l_1000000013, l_1000000014, c1, c5, c6, e2, ite_self]
      exact OkM.mk Em.rfl'
    · simp (maxSteps := 1000000) (disch := omega) only [vv_e, mm_e, jn_e, bd_e, bd_i, e2_0_0, e2_0_1, e2_0_2, e2_0_4, e2_0_5, e2_0_6, e2_0_7, e2_0_8, e2_0_9, e2_0_10, e2_0_11, e2_0_12, e2_0_24, e2_0_25, e2_0_28, e2_0_29, e2_0_30, e2_0_34, e2_0_35, e2_0_36, e2_0_38, ld_i, st_i, la_i, sl_i, nI_add, pk_mul, pk_sub, ng_add, neg_neg_n, nlt, nle, neq, ng_lt, gn_lt, gg_lt, ng_le, gn_le, gg_le, ng_eq, gn_eq, gg_eq, dv_i, if_pos, if_neg, ite_tt, ite_ff, if_b2, if_b2n, l_0, l_1, l_2, l_3, l_4, l_5, l_6, l_7, l_8, l_9, l_10, l_11, l_12, l_13, l_16, l_20, l_24, l_30, l_32, l_33, l_38, l_42, l_43, l_45, l_47, l_48, l_50, l_57, l_60, l_61, l_62, l_96, l_97, l_99, l_100, l_102, l_105, l_110, l_121, l_122, l_124, l_128, l_200, l_255, l_270, l_350, l_360, l_400, l_440, l_490, l_500, l_999, l_1000, l_9999, l_10000, l_99999, l_100000, l_1000000, l_1000000001, l_1000000002, l_1000000003, l_1000000005, l_1000000011, l_1000000012, l_1000000013, l_1000000014, c1, c5, c6, e2, ite_self]
      exact OkM.mk Em.rfl'
theorem fits_1 (hb : b = 1 ∨ b = 31) (h : RS nT nF nX nC nE nL nS M b (N 1)) {f : Nat} (hf : f < nF) : ∃ v, (v = nI 0 ∨ v = nI 1) ∧ OkC M v (f_X6_fits b (nI f) (nI 1) M) ∧ OkM N v (f_X10_fits 0 (nI f) (nI 1) N) := by
  obtain ⟨hT, hF, hX, hL, hC, hR, hD, hN, hO, hZ⟩ := id h
  obtain ⟨f1, f2, f3, f4⟩ := id hF
  obtain ⟨t, k, v, p, q1, q2, q3, q4, q5, a1, a2, a3, a4, c1, c2, c3, c4, c5, c6⟩ := hF.fig hf
  obtain ⟨z1, z2, bs, hbs, z3⟩ := id hZ
  have z4 := z2.trans z3
  have e2 := y_cnt hX (nI t)
  obtain ⟨s, hs, o1, o2⟩ := spreadOf_det hb h hf
  have C : ∀ w, w = (if v ≤ bs + s ∧ bs ≤ v + s then nI 1 else nI 0) → OkC M w (f_X6_fits b (nI f) (nI 1) M) := by
    intro w hw
    unfold f_X6_fits
    by_cases hvb : bs ≤ v
    · rcases c6 with c6 | ⟨f', hf', c6⟩
      · simp (maxSteps := 1000000) (disch := omega) only [vv_e, mm_e, jn_e, bd_e, bd_i, gb_0_0, gb_0_1, gb_0_2, gb_0_3, gb_0_4, gb_0_5, gb_0_9, gb_1_1, gb_1_3, gb_1_4, gb_1_5, gb_1_6, gb_1_7, gb_8_1, gb_8_2, gb_8_3, gb_8_4, gb_8_5, gb_8_6, gb_15_0, gb_15_1, gb_18_0, gb_18_2, gb_18_3, gb_18_4, gb_23_1, gb_23_2, gb_23_3, gb_23_5, s_has, f1, ld_i, st_i, la_i, sl_i, nI_add, pk_mul, pk_sub, ng_add, neg_neg_n, nlt, nle, neq, ng_lt, gn_lt, gg_lt, ng_le, gn_le, gg_le, ng_eq, gn_eq, gg_eq, dv_i, if_pos, if_neg, ite_tt, ite_ff, if_b2, if_b2n, l_0, l_1, l_2, l_3, l_4, l_5, l_6, l_7, l_8, l_9, l_10, l_11, l_12, l_13, l_16, l_20, l_24, l_30, l_32, l_33, l_38, l_42, l_43, l_45, l_47, l_48, l_50, l_57, l_60, l_61, l_62, l_96, l_97, l_99, l_100, l_102, l_105, l_110, l_121, l_122, l_124, l_128, l_200, l_255, l_270, l_350, l_360, l_400, l_440, l_490, l_500, l_999, l_1000, l_9999, l_10000, l_99999, l_100000, l_1000000, l_1000000001, l_1000000002, l_1000000003, l_1000000005, l_1000000011, l_1000000012, l_1000000013, l_1000000014, a3, c6, z3]
        refine OkC.then (o1 M Ec.rfl') (fun M' e => ?_)
        by_cases hc : v - bs ≤ s
        · simp (maxSteps := 1000000) (disch := omega) only [ld_i, st_i, la_i, sl_i, nI_add, pk_mul, pk_sub, ng_add, neg_neg_n, nlt, nle, neq, ng_lt, gn_lt, gg_lt, ng_le, gn_le, gg_le, ng_eq, gn_eq, gg_eq, dv_i, if_pos, if_neg, ite_tt, ite_ff, if_b2, if_b2n, l_0, l_1, l_2, l_3, l_4, l_5, l_6, l_7, l_8, l_9, l_10, l_11, l_12, l_13, l_16, l_20, l_24, l_30, l_32, l_33, l_38, l_42, l_43, l_45, l_47, l_48, l_50, l_57, l_60, l_61, l_62, l_96, l_97, l_99, l_100, l_102, l_105, l_110, l_121, l_122, l_124, l_128, l_200, l_255, l_270, l_350, l_360, l_400, l_440, l_490, l_500, l_999, l_1000, l_9999, l_10000, l_99999, l_100000, l_1000000, l_1000000001, l_1000000002, l_1000000003, l_1000000005, l_1000000011, l_1000000012, l_1000000013, l_1000000014]
          rw [hw, if_pos (by omega)]
          exact OkC.mk e
        · simp (maxSteps := 1000000) (disch := omega) only [ld_i, st_i, la_i, sl_i, nI_add, pk_mul, pk_sub, ng_add, neg_neg_n, nlt, nle, neq, ng_lt, gn_lt, gg_lt, ng_le, gn_le, gg_le, ng_eq, gn_eq, gg_eq, dv_i, if_pos, if_neg, ite_tt, ite_ff, if_b2, if_b2n, l_0, l_1, l_2, l_3, l_4, l_5, l_6, l_7, l_8, l_9, l_10, l_11, l_12, l_13, l_16, l_20, l_24, l_30, l_32, l_33, l_38, l_42, l_43, l_45, l_47, l_48, l_50, l_57, l_60, l_61, l_62, l_96, l_97, l_99, l_100, l_102, l_105, l_110, l_121, l_122, l_124, l_128, l_200, l_255, l_270, l_350, l_360, l_400, l_440, l_490, l_500, l_999, l_1000, l_9999, l_10000, l_99999, l_100000, l_1000000, l_1000000001, l_1000000002, l_1000000003, l_1000000005, l_1000000011, l_1000000012, l_1000000013, l_1000000014]
          rw [hw, if_neg (by omega)]
          exact OkC.mk e
      · simp (maxSteps := 1000000) (disch := omega) only [vv_e, mm_e, jn_e, bd_e, bd_i, gb_0_0, gb_0_1, gb_0_2, gb_0_3, gb_0_4, gb_0_5, gb_0_9, gb_1_1, gb_1_3, gb_1_4, gb_1_5, gb_1_6, gb_1_7, gb_8_1, gb_8_2, gb_8_3, gb_8_4, gb_8_5, gb_8_6, gb_15_0, gb_15_1, gb_18_0, gb_18_2, gb_18_3, gb_18_4, gb_23_1, gb_23_2, gb_23_3, gb_23_5, s_has, f1, ld_i, st_i, la_i, sl_i, nI_add, pk_mul, pk_sub, ng_add, neg_neg_n, nlt, nle, neq, ng_lt, gn_lt, gg_lt, ng_le, gn_le, gg_le, ng_eq, gn_eq, gg_eq, dv_i, if_pos, if_neg, ite_tt, ite_ff, if_b2, if_b2n, l_0, l_1, l_2, l_3, l_4, l_5, l_6, l_7, l_8, l_9, l_10, l_11, l_12, l_13, l_16, l_20, l_24, l_30, l_32, l_33, l_38, l_42, l_43, l_45, l_47, l_48, l_50, l_57, l_60, l_61, l_62, l_96, l_97, l_99, l_100, l_102, l_105, l_110, l_121, l_122, l_124, l_128, l_200, l_255, l_270, l_350, l_360, l_400, l_440, l_490, l_500, l_999, l_1000, l_9999, l_10000, l_99999, l_100000, l_1000000, l_1000000001, l_1000000002, l_1000000003, l_1000000005, l_1000000011, l_1000000012, l_1000000013, l_1000000014, a3, c6, z3]
        refine OkC.then (o1 M Ec.rfl') (fun M' e => ?_)
        by_cases hc : v - bs ≤ s
        · simp (maxSteps := 1000000) (disch := omega) only [ld_i, st_i, la_i, sl_i, nI_add, pk_mul, pk_sub, ng_add, neg_neg_n, nlt, nle, neq, ng_lt, gn_lt, gg_lt, ng_le, gn_le, gg_le, ng_eq, gn_eq, gg_eq, dv_i, if_pos, if_neg, ite_tt, ite_ff, if_b2, if_b2n, l_0, l_1, l_2, l_3, l_4, l_5, l_6, l_7, l_8, l_9, l_10, l_11, l_12, l_13, l_16, l_20, l_24, l_30, l_32, l_33, l_38, l_42, l_43, l_45, l_47, l_48, l_50, l_57, l_60, l_61, l_62, l_96, l_97, l_99, l_100, l_102, l_105, l_110, l_121, l_122, l_124, l_128, l_200, l_255, l_270, l_350, l_360, l_400, l_440, l_490, l_500, l_999, l_1000, l_9999, l_10000, l_99999, l_100000, l_1000000, l_1000000001, l_1000000002, l_1000000003, l_1000000005, l_1000000011, l_1000000012, l_1000000013, l_1000000014]
          rw [hw, if_pos (by omega)]
          exact OkC.mk e
        · simp (maxSteps := 1000000) (disch := omega) only [ld_i, st_i, la_i, sl_i, nI_add, pk_mul, pk_sub, ng_add, neg_neg_n, nlt, nle, neq, ng_lt, gn_lt, gg_lt, ng_le, gn_le, gg_le, ng_eq, gn_eq, gg_eq, dv_i, if_pos, if_neg, ite_tt, ite_ff, if_b2, if_b2n, l_0, l_1, l_2, l_3, l_4, l_5, l_6, l_7, l_8, l_9, l_10, l_11, l_12, l_13, l_16, l_20, l_24, l_30, l_32, l_33, l_38, l_42, l_43, l_45, l_47, l_48, l_50, l_57, l_60, l_61, l_62, l_96, l_97, l_99, l_100, l_102, l_105, l_110, l_121, l_122, l_124, l_128, l_200, l_255, l_270, l_350, l_360, l_400, l_440, l_490, l_500, l_999, l_1000, l_9999, l_10000, l_99999, l_100000, l_1000000, l_1000000001, l_1000000002, l_1000000003, l_1000000005, l_1000000011, l_1000000012, l_1000000013, l_1000000014]
          rw [hw, if_neg (by omega)]
          exact OkC.mk e
    · rcases c6 with c6 | ⟨f', hf', c6⟩
      · simp (maxSteps := 1000000) (disch := omega) only [vv_e, mm_e, jn_e, bd_e, bd_i, gb_0_0, gb_0_1, gb_0_2, gb_0_3, gb_0_4, gb_0_5, gb_0_9, gb_1_1, gb_1_3, gb_1_4, gb_1_5, gb_1_6, gb_1_7, gb_8_1, gb_8_2, gb_8_3, gb_8_4, gb_8_5, gb_8_6, gb_15_0, gb_15_1, gb_18_0, gb_18_2, gb_18_3, gb_18_4, gb_23_1, gb_23_2, gb_23_3, gb_23_5, s_has, f1, ld_i, st_i, la_i, sl_i, nI_add, pk_mul, pk_sub, ng_add, neg_neg_n, nlt, nle, neq, ng_lt, gn_lt, gg_lt, ng_le, gn_le, gg_le, ng_eq, gn_eq, gg_eq, dv_i, if_pos, if_neg, ite_tt, ite_ff, if_b2, if_b2n, l_0, l_1, l_2, l_3, l_4, l_5, l_6, l_7, l_8, l_9, l_10, l_11, l_12, l_13, l_16, l_20, l_24, l_30, l_32, l_33, l_38, l_42, l_43, l_45, l_47, l_48, l_50, l_57, l_60, l_61, l_62, l_96, l_97, l_99, l_100, l_102, l_105, l_110, l_121, l_122, l_124, l_128, l_200, l_255, l_270, l_350, l_360, l_400, l_440, l_490, l_500, l_999, l_1000, l_9999, l_10000, l_99999, l_100000, l_1000000, l_1000000001, l_1000000002, l_1000000003, l_1000000005, l_1000000011, l_1000000012, l_1000000013, l_1000000014, a3, c6, z3, gs_sub, sub_ng]
        refine OkC.then (o1 M Ec.rfl') (fun M' e => ?_)
        by_cases hc : bs - v ≤ s
        · simp (maxSteps := 1000000) (disch := omega) only [ld_i, st_i, la_i, sl_i, nI_add, pk_mul, pk_sub, ng_add, neg_neg_n, nlt, nle, neq, ng_lt, gn_lt, gg_lt, ng_le, gn_le, gg_le, ng_eq, gn_eq, gg_eq, dv_i, if_pos, if_neg, ite_tt, ite_ff, if_b2, if_b2n, l_0, l_1, l_2, l_3, l_4, l_5, l_6, l_7, l_8, l_9, l_10, l_11, l_12, l_13, l_16, l_20, l_24, l_30, l_32, l_33, l_38, l_42, l_43, l_45, l_47, l_48, l_50, l_57, l_60, l_61, l_62, l_96, l_97, l_99, l_100, l_102, l_105, l_110, l_121, l_122, l_124, l_128, l_200, l_255, l_270, l_350, l_360, l_400, l_440, l_490, l_500, l_999, l_1000, l_9999, l_10000, l_99999, l_100000, l_1000000, l_1000000001, l_1000000002, l_1000000003, l_1000000005, l_1000000011, l_1000000012, l_1000000013, l_1000000014]
          rw [hw, if_pos (by omega)]
          exact OkC.mk e
        · simp (maxSteps := 1000000) (disch := omega) only [ld_i, st_i, la_i, sl_i, nI_add, pk_mul, pk_sub, ng_add, neg_neg_n, nlt, nle, neq, ng_lt, gn_lt, gg_lt, ng_le, gn_le, gg_le, ng_eq, gn_eq, gg_eq, dv_i, if_pos, if_neg, ite_tt, ite_ff, if_b2, if_b2n, l_0, l_1, l_2, l_3, l_4, l_5, l_6, l_7, l_8, l_9, l_10, l_11, l_12, l_13, l_16, l_20, l_24, l_30, l_32, l_33, l_38, l_42, l_43, l_45, l_47, l_48, l_50, l_57, l_60, l_61, l_62, l_96, l_97, l_99, l_100, l_102, l_105, l_110, l_121, l_122, l_124, l_128, l_200, l_255, l_270, l_350, l_360, l_400, l_440, l_490, l_500, l_999, l_1000, l_9999, l_10000, l_99999, l_100000, l_1000000, l_1000000001, l_1000000002, l_1000000003, l_1000000005, l_1000000011, l_1000000012, l_1000000013, l_1000000014]
          rw [hw, if_neg (by omega)]
          exact OkC.mk e
      · simp (maxSteps := 1000000) (disch := omega) only [vv_e, mm_e, jn_e, bd_e, bd_i, gb_0_0, gb_0_1, gb_0_2, gb_0_3, gb_0_4, gb_0_5, gb_0_9, gb_1_1, gb_1_3, gb_1_4, gb_1_5, gb_1_6, gb_1_7, gb_8_1, gb_8_2, gb_8_3, gb_8_4, gb_8_5, gb_8_6, gb_15_0, gb_15_1, gb_18_0, gb_18_2, gb_18_3, gb_18_4, gb_23_1, gb_23_2, gb_23_3, gb_23_5, s_has, f1, ld_i, st_i, la_i, sl_i, nI_add, pk_mul, pk_sub, ng_add, neg_neg_n, nlt, nle, neq, ng_lt, gn_lt, gg_lt, ng_le, gn_le, gg_le, ng_eq, gn_eq, gg_eq, dv_i, if_pos, if_neg, ite_tt, ite_ff, if_b2, if_b2n, l_0, l_1, l_2, l_3, l_4, l_5, l_6, l_7, l_8, l_9, l_10, l_11, l_12, l_13, l_16, l_20, l_24, l_30, l_32, l_33, l_38, l_42, l_43, l_45, l_47, l_48, l_50, l_57, l_60, l_61, l_62, l_96, l_97, l_99, l_100, l_102, l_105, l_110, l_121, l_122, l_124, l_128, l_200, l_255, l_270, l_350, l_360, l_400, l_440, l_490, l_500, l_999, l_1000, l_9999, l_10000, l_99999, l_100000, l_1000000, l_1000000001, l_1000000002, l_1000000003, l_1000000005, l_1000000011, l_1000000012, l_1000000013, l_1000000014, a3, c6, z3, gs_sub, sub_ng]
        refine OkC.then (o1 M Ec.rfl') (fun M' e => ?_)
        by_cases hc : bs - v ≤ s
        · simp (maxSteps := 1000000) (disch := omega) only [ld_i, st_i, la_i, sl_i, nI_add, pk_mul, pk_sub, ng_add, neg_neg_n, nlt, nle, neq, ng_lt, gn_lt, gg_lt, ng_le, gn_le, gg_le, ng_eq, gn_eq, gg_eq, dv_i, if_pos, if_neg, ite_tt, ite_ff, if_b2, if_b2n, l_0, l_1, l_2, l_3, l_4, l_5, l_6, l_7, l_8, l_9, l_10, l_11, l_12, l_13, l_16, l_20, l_24, l_30, l_32, l_33, l_38, l_42, l_43, l_45, l_47, l_48, l_50, l_57, l_60, l_61, l_62, l_96, l_97, l_99, l_100, l_102, l_105, l_110, l_121, l_122, l_124, l_128, l_200, l_255, l_270, l_350, l_360, l_400, l_440, l_490, l_500, l_999, l_1000, l_9999, l_10000, l_99999, l_100000, l_1000000, l_1000000001, l_1000000002, l_1000000003, l_1000000005, l_1000000011, l_1000000012, l_1000000013, l_1000000014]
          rw [hw, if_pos (by omega)]
          exact OkC.mk e
        · simp (maxSteps := 1000000) (disch := omega) only [ld_i, st_i, la_i, sl_i, nI_add, pk_mul, pk_sub, ng_add, neg_neg_n, nlt, nle, neq, ng_lt, gn_lt, gg_lt, ng_le, gn_le, gg_le, ng_eq, gn_eq, gg_eq, dv_i, if_pos, if_neg, ite_tt, ite_ff, if_b2, if_b2n, l_0, l_1, l_2, l_3, l_4, l_5, l_6, l_7, l_8, l_9, l_10, l_11, l_12, l_13, l_16, l_20, l_24, l_30, l_32, l_33, l_38, l_42, l_43, l_45, l_47, l_48, l_50, l_57, l_60, l_61, l_62, l_96, l_97, l_99, l_100, l_102, l_105, l_110, l_121, l_122, l_124, l_128, l_200, l_255, l_270, l_350, l_360, l_400, l_440, l_490, l_500, l_999, l_1000, l_9999, l_10000, l_99999, l_100000, l_1000000, l_1000000001, l_1000000002, l_1000000003, l_1000000005, l_1000000011, l_1000000012, l_1000000013, l_1000000014]
          rw [hw, if_neg (by omega)]
          exact OkC.mk e
  have D : ∀ w, w = (if v ≤ bs + s ∧ bs ≤ v + s then nI 1 else nI 0) → OkM N w (f_X10_fits 0 (nI f) (nI 1) N) := by
    intro w hw
    have key : OkM N w (bd (f_X10_spreadOf 0 (nI f) N) fun x15 M => bd (f_X10_spreadOf 0 (nI f) M) fun x16 M => bd (f_X10_isIn (Int32.toInt64 (nI v - nI bs)) (Int32.toInt64 (-x15)) (Int32.toInt64 x16) M) fun x17 M => some (x17, M)) := by
      refine OkM.then (o2 N Em.rfl') (fun N1 e1 => ?_)
      refine OkM.then (o2 N1 e1) (fun N2 e2 => ?_)
      by_cases hvb : bs ≤ v
      · simp (maxSteps := 1000000) (disch := omega) only [vv_e, mm_e, jn_e, bd_e, bd_i, ld_i, st_i, la_i, sl_i, nI_add, pk_mul, pk_sub, ng_add, neg_neg_n, nlt, nle, neq, ng_lt, gn_lt, gg_lt, ng_le, gn_le, gg_le, ng_eq, gn_eq, gg_eq, dv_i, if_pos, if_neg, ite_tt, ite_ff, if_b2, if_b2n, l_0, l_1, l_2, l_3, l_4, l_5, l_6, l_7, l_8, l_9, l_10, l_11, l_12, l_13, l_16, l_20, l_24, l_30, l_32, l_33, l_38, l_42, l_43, l_45, l_47, l_48, l_50, l_57, l_60, l_61, l_62, l_96, l_97, l_99, l_100, l_102, l_105, l_110, l_121, l_122, l_124, l_128, l_200, l_255, l_270, l_350, l_360, l_400, l_440, l_490, l_500, l_999, l_1000, l_9999, l_10000, l_99999, l_100000, l_1000000, l_1000000001, l_1000000002, l_1000000003, l_1000000005, l_1000000011, l_1000000012, l_1000000013, l_1000000014, s_isIn, s_within, true_and]
        by_cases hc : v - bs ≤ s
        · rw [b2_t hc, hw, if_pos (by omega)]
          exact OkM.mk (e1.trans e2)
        · rw [b2_f hc, hw, if_neg (by omega)]
          exact OkM.mk (e1.trans e2)
      · simp (maxSteps := 1000000) (disch := omega) only [vv_e, mm_e, jn_e, bd_e, bd_i, ld_i, st_i, la_i, sl_i, nI_add, pk_mul, pk_sub, ng_add, neg_neg_n, nlt, nle, neq, ng_lt, gn_lt, gg_lt, ng_le, gn_le, gg_le, ng_eq, gn_eq, gg_eq, dv_i, if_pos, if_neg, ite_tt, ite_ff, if_b2, if_b2n, l_0, l_1, l_2, l_3, l_4, l_5, l_6, l_7, l_8, l_9, l_10, l_11, l_12, l_13, l_16, l_20, l_24, l_30, l_32, l_33, l_38, l_42, l_43, l_45, l_47, l_48, l_50, l_57, l_60, l_61, l_62, l_96, l_97, l_99, l_100, l_102, l_105, l_110, l_121, l_122, l_124, l_128, l_200, l_255, l_270, l_350, l_360, l_400, l_440, l_490, l_500, l_999, l_1000, l_9999, l_10000, l_99999, l_100000, l_1000000, l_1000000001, l_1000000002, l_1000000003, l_1000000005, l_1000000011, l_1000000012, l_1000000013, l_1000000014, s_isIn, s_within, gs_sub, and_true]
        by_cases hc : bs - v ≤ s
        · rw [b2_t hc, hw, if_pos (by omega)]
          exact OkM.mk (e1.trans e2)
        · rw [b2_f hc, hw, if_neg (by omega)]
          exact OkM.mk (e1.trans e2)
    unfold f_X10_fits f_X10_figureAt
    rcases c6 with c6 | ⟨f', hf', c6⟩
    · simp (maxSteps := 1000000) (disch := omega) only [vv_e, mm_e, jn_e, bd_e, bd_i, e2_0_0, e2_0_1, e2_0_2, e2_0_4, e2_0_5, e2_0_6, e2_0_7, e2_0_8, e2_0_9, e2_0_10, e2_0_11, e2_0_12, e2_0_24, e2_0_25, e2_0_28, e2_0_29, e2_0_30, e2_0_34, e2_0_35, e2_0_36, e2_0_38, ld_i, la_i, nI_add, pk_mul, nlt, neq, gn_lt, if_pos, if_neg, l_0, l_1, l_2, l_3, l_4, l_5, l_6, l_7, l_8, l_9, l_10, l_11, l_12, l_13, l_16, l_20, l_24, l_30, l_32, l_33, l_38, l_42, l_43, l_45, l_47, l_48, l_50, l_57, l_60, l_61, l_62, l_96, l_97, l_99, l_100, l_102, l_105, l_110, l_121, l_122, l_124, l_128, l_200, l_255, l_270, l_350, l_360, l_400, l_440, l_490, l_500, l_999, l_1000, l_9999, l_10000, l_99999, l_100000, l_1000000, l_1000000001, l_1000000002, l_1000000003, l_1000000005, l_1000000011, l_1000000012, l_1000000013, l_1000000014, c1, c3, c5, c6, e2, z4, ite_self]
      exact key
    · simp (maxSteps := 1000000) (disch := omega) only [vv_e, mm_e, jn_e, bd_e, bd_i, e2_0_0, e2_0_1, e2_0_2, e2_0_4, e2_0_5, e2_0_6, e2_0_7, e2_0_8, e2_0_9, e2_0_10, e2_0_11, e2_0_12, e2_0_24, e2_0_25, e2_0_28, e2_0_29, e2_0_30, e2_0_34, e2_0_35, e2_0_36, e2_0_38, ld_i, la_i, nI_add, pk_mul, nlt, neq, gn_lt, if_pos, if_neg, l_0, l_1, l_2, l_3, l_4, l_5, l_6, l_7, l_8, l_9, l_10, l_11, l_12, l_13, l_16, l_20, l_24, l_30, l_32, l_33, l_38, l_42, l_43, l_45, l_47, l_48, l_50, l_57, l_60, l_61, l_62, l_96, l_97, l_99, l_100, l_102, l_105, l_110, l_121, l_122, l_124, l_128, l_200, l_255, l_270, l_350, l_360, l_400, l_440, l_490, l_500, l_999, l_1000, l_9999, l_10000, l_99999, l_100000, l_1000000, l_1000000001, l_1000000002, l_1000000003, l_1000000005, l_1000000011, l_1000000012, l_1000000013, l_1000000014, c1, c3, c5, c6, e2, z4, ite_self]
      exact key
  refine ⟨_, ?_, C _ rfl, D _ rfl⟩
  by_cases hc : v ≤ bs + s ∧ bs ≤ v + s
  · exact Or.inr (if_pos hc)
  · exact Or.inl (if_neg hc)
theorem fits_23 (hb : b = 1 ∨ b = 31) (h : RS nT nF nX nC nE nL nS M b (N 1)) {f : Nat} (hf : f < nF) {kd : Nat} (hk : kd = 2 ∨ kd = 3) : ∃ v, (v = nI 0 ∨ v = nI 1) ∧ OkC M v (f_X6_fits b (nI f) (nI kd) M) ∧ OkM N v (f_X10_fits 0 (nI f) (nI kd) N) := by
  obtain ⟨hT, hF, hX, -⟩ := id h
  obtain ⟨f1, f2, f3, f4⟩ := id hF
  obtain ⟨t, k, v, p, q1, q2, q3, q4, q5, a1, a2, a3, a4, c1, c2, c3, c4, c5, c6⟩ := hF.fig hf
  have ht12 : nT ≤ 12 := hT.2.2.1
  have hx3 : nX ≤ 14 := hX.2.2.1
  have e1 := x_lat hb hX 0 (nI t) (nI t) (Or.inl ⟨rfl, ⟨t, by omega, rfl⟩, rfl⟩)
  have e2 := y_cnt hX (nI t)
  cases hC : CT (N 1) (nI t) with
  | none =>
    rw [hC] at e1 e2
    refine ⟨nI 0, Or.inl rfl, ?_, ?_⟩
    · unfold f_X6_fits f_X6_isWorkedWithin f_X6_isWorked
      rcases c6 with c6 | ⟨f', hf', c6⟩ <;> rcases hk with rfl | rfl <;> simp (maxSteps := 1000000) (disch := omega) only [vv_e, mm_e, jn_e, bd_e, bd_i, gb_0_0, gb_0_1, gb_0_2, gb_0_3, gb_0_4, gb_0_5, gb_0_9, gb_1_1, gb_1_3, gb_1_4, gb_1_5, gb_1_6, gb_1_7, gb_8_1, gb_8_2, gb_8_3, gb_8_4, gb_8_5, gb_8_6, gb_15_0, gb_15_1, gb_18_0, gb_18_2, gb_18_3, gb_18_4, gb_23_1, gb_23_2, gb_23_3, gb_23_5, s_has, f1, ld_i, st_i, la_i, sl_i, nI_add, pk_mul, pk_sub, ng_add, neg_neg_n, nlt, nle, neq, ng_lt, gn_lt, gg_lt, ng_le, gn_le, gg_le, ng_eq, gn_eq, gg_eq, dv_i, if_pos, if_neg, ite_tt, ite_ff, if_b2, if_b2n, l_0, l_1, l_2, l_3, l_4, l_5, l_6, l_7, l_8, l_9, l_10, l_11, l_12, l_13, l_16, l_20, l_24, l_30, l_32, l_33, l_38, l_42, l_43, l_45, l_47, l_48, l_50, l_57, l_60, l_61, l_62, l_96, l_97, l_99, l_100, l_102, l_105, l_110, l_121, l_122, l_124, l_128, l_200, l_255, l_270, l_350, l_360, l_400, l_440, l_490, l_500, l_999, l_1000, l_9999, l_10000, l_99999, l_100000, l_1000000, l_1000000001, l_1000000002, l_1000000003, l_1000000005, l_1000000011, l_1000000012, l_1000000013, l_1000000014, a1, a3, c6, e1, orN_n'] <;> exact OkC.mk Ec.rfl'
    · unfold f_X10_fits f_X10_figureAt
      rcases c6 with c6 | ⟨f', hf', c6⟩ <;> rcases hk with rfl | rfl <;> simp (maxSteps := 1000000) (disch := omega) only [vv_e, mm_e, jn_e, bd_e, bd_i, e2_0_0, e2_0_1, e2_0_2, e2_0_4, e2_0_5, e2_0_6, e2_0_7, e2_0_8, e2_0_9, e2_0_10, e2_0_11, e2_0_12, e2_0_24, e2_0_25, e2_0_28, e2_0_29, e2_0_30, e2_0_34, e2_0_35, e2_0_36, e2_0_38, ld_i, st_i, la_i, sl_i, nI_add, pk_mul, pk_sub, ng_add, neg_neg_n, nlt, nle, neq, ng_lt, gn_lt, gg_lt, ng_le, gn_le, gg_le, ng_eq, gn_eq, gg_eq, dv_i, if_pos, if_neg, ite_tt, ite_ff, if_b2, if_b2n, l_0, l_1, l_2, l_3, l_4, l_5, l_6, l_7, l_8, l_9, l_10, l_11, l_12, l_13, l_16, l_20, l_24, l_30, l_32, l_33, l_38, l_42, l_43, l_45, l_47, l_48, l_50, l_57, l_60, l_61, l_62, l_96, l_97, l_99, l_100, l_102, l_105, l_110, l_121, l_122, l_124, l_128, l_200, l_255, l_270, l_350, l_360, l_400, l_440, l_490, l_500, l_999, l_1000, l_9999, l_10000, l_99999, l_100000, l_1000000, l_1000000001, l_1000000002, l_1000000003, l_1000000005, l_1000000011, l_1000000012, l_1000000013, l_1000000014, c1, c5, c6, e2, orM_n'] <;> exact OkM.mk Em.rfl'
  | some tt =>
    rw [hC] at e1 e2
    have htt := (hX.ct_s hC).1
    obtain ⟨w, o1, o2⟩ := worked_det hb h hf a1 (by omega) hC
    rcases hk with rfl | rfl
    · have C : ∀ r, r = (if w = nI v then nI 1 else nI 0) → OkC M r (f_X6_fits b (nI f) (nI 2) M) := by
        intro r hr
        have key : OkC M r (bd (f_X6_worked b (nI f) M) fun x2 M => if Int32.toInt64 x2 - Int32.toInt64 (M (b + 5) f) < Int32.toInt64 (-nI 0) then some (nI 0, M) else if Int32.toInt64 (nI 0) < Int32.toInt64 x2 - Int32.toInt64 (M (b + 5) f) then some (nI 0, M) else some (nI 1, M)) := by
          refine OkC.then (o1 M Ec.rfl') (fun M' e => ?_)
          have a3' : M' (b + 5) f = nI v := by rw [e (b + 5) (by omega) (by omega) (by omega) (by omega) (by omega) (by omega)]; exact a3
          simp only [a3', w64a w v 0 q3 (by omega), w64b w v 0 q3 (by omega)]
          by_cases hw : w = nI v
          · have : w.toInt = v := by rw [hw]; exact nI_toInt (by omega)
            rw [if_neg (by omega), if_neg (by omega), hr, if_pos hw]
            exact OkC.mk e
          · have : w.toInt ≠ v := fun q => hw (Int32.toInt_inj.mp (by rw [q, nI_toInt (by omega)]))
            rw [hr, if_neg hw]
            by_cases h1 : w.toInt - (v : Int) < -((0 : Nat) : Int)
            · rw [if_pos h1]; exact OkC.mk e
            · rw [if_neg h1, if_pos (by omega)]; exact OkC.mk e
        unfold f_X6_fits f_X6_isWorkedWithin f_X6_isWorked
        rcases c6 with c6 | ⟨f', hf', c6⟩
        · simp (maxSteps := 1000000) (disch := omega) only [vv_e, mm_e, jn_e, bd_e, bd_i, gb_0_0, gb_0_1, gb_0_2, gb_0_3, gb_0_4, gb_0_5, gb_0_9, gb_1_1, gb_1_3, gb_1_4, gb_1_5, gb_1_6, gb_1_7, gb_8_1, gb_8_2, gb_8_3, gb_8_4, gb_8_5, gb_8_6, gb_15_0, gb_15_1, gb_18_0, gb_18_2, gb_18_3, gb_18_4, gb_23_1, gb_23_2, gb_23_3, gb_23_5, s_has, f1, ld_i, neq, ng_eq, gn_eq, ng_le, gn_lt, nle, nlt, if_pos, if_neg, ite_tt, ite_ff, if_b2, if_b2n, l_0, l_1, l_2, l_3, l_4, l_5, l_6, l_7, l_8, l_9, l_10, l_11, l_12, l_13, l_16, l_20, l_24, l_30, l_32, l_33, l_38, l_42, l_43, l_45, l_47, l_48, l_50, l_57, l_60, l_61, l_62, l_96, l_97, l_99, l_100, l_102, l_105, l_110, l_121, l_122, l_124, l_128, l_200, l_255, l_270, l_350, l_360, l_400, l_440, l_490, l_500, l_999, l_1000, l_9999, l_10000, l_99999, l_100000, l_1000000, l_1000000001, l_1000000002, l_1000000003, l_1000000005, l_1000000011, l_1000000012, l_1000000013, l_1000000014, a1, a3, c6, e1, orN_s, lgc_lt', lgc_gt', bd_v, bd_b]
          exact key
        · simp (maxSteps := 1000000) (disch := omega) only [vv_e, mm_e, jn_e, bd_e, bd_i, gb_0_0, gb_0_1, gb_0_2, gb_0_3, gb_0_4, gb_0_5, gb_0_9, gb_1_1, gb_1_3, gb_1_4, gb_1_5, gb_1_6, gb_1_7, gb_8_1, gb_8_2, gb_8_3, gb_8_4, gb_8_5, gb_8_6, gb_15_0, gb_15_1, gb_18_0, gb_18_2, gb_18_3, gb_18_4, gb_23_1, gb_23_2, gb_23_3, gb_23_5, s_has, f1, ld_i, neq, ng_eq, gn_eq, ng_le, gn_lt, nle, nlt, if_pos, if_neg, ite_tt, ite_ff, if_b2, if_b2n, l_0, l_1, l_2, l_3, l_4, l_5, l_6, l_7, l_8, l_9, l_10, l_11, l_12, l_13, l_16, l_20, l_24, l_30, l_32, l_33, l_38, l_42, l_43, l_45, l_47, l_48, l_50, l_57, l_60, l_61, l_62, l_96, l_97, l_99, l_100, l_102, l_105, l_110, l_121, l_122, l_124, l_128, l_200, l_255, l_270, l_350, l_360, l_400, l_440, l_490, l_500, l_999, l_1000, l_9999, l_10000, l_99999, l_100000, l_1000000, l_1000000001, l_1000000002, l_1000000003, l_1000000005, l_1000000011, l_1000000012, l_1000000013, l_1000000014, a1, a3, c6, e1, orN_s, lgc_lt', lgc_gt', bd_v, bd_b]
          exact key
      have D : ∀ r, r = (if w = nI v then nI 1 else nI 0) → OkM N r (f_X10_fits 0 (nI f) (nI 2) N) := by
        intro r hr
        have key : OkM N r (bd (f_X10_workedOf 0 (nI f) N) fun x20 M => if x20 = M 1 (30 + 6 * f + 2) then some (nI 1, M) else some (nI 0, M)) := by
          refine OkM.then (o2 N Em.rfl') (fun N' e => ?_)
          have c3' : N' 1 (30 + 6 * f + 2) = nI v := by rw [e.1 1 (by omega)]; exact c3
          rw [c3', hr]
          split <;> exact OkM.mk e
        unfold f_X10_fits f_X10_figureAt
        rcases c6 with c6 | ⟨f', hf', c6⟩
        · simp (maxSteps := 1000000) (disch := omega) only [vv_e, mm_e, jn_e, bd_e, bd_i, e2_0_0, e2_0_1, e2_0_2, e2_0_4, e2_0_5, e2_0_6, e2_0_7, e2_0_8, e2_0_9, e2_0_10, e2_0_11, e2_0_12, e2_0_24, e2_0_25, e2_0_28, e2_0_29, e2_0_30, e2_0_34, e2_0_35, e2_0_36, e2_0_38, ld_i, nI_add, pk_mul, neq, nlt, gn_lt, if_pos, if_neg, ite_tt, ite_ff, l_0, l_1, l_2, l_3, l_4, l_5, l_6, l_7, l_8, l_9, l_10, l_11, l_12, l_13, l_16, l_20, l_24, l_30, l_32, l_33, l_38, l_42, l_43, l_45, l_47, l_48, l_50, l_57, l_60, l_61, l_62, l_96, l_97, l_99, l_100, l_102, l_105, l_110, l_121, l_122, l_124, l_128, l_200, l_255, l_270, l_350, l_360, l_400, l_440, l_490, l_500, l_999, l_1000, l_9999, l_10000, l_99999, l_100000, l_1000000, l_1000000001, l_1000000002, l_1000000003, l_1000000005, l_1000000011, l_1000000012, l_1000000013, l_1000000014, c1, c5, c6, e2, orM_s]
          exact key
        · simp (maxSteps := 1000000) (disch := omega) only [vv_e, mm_e, jn_e, bd_e, bd_i, e2_0_0, e2_0_1, e2_0_2, e2_0_4, e2_0_5, e2_0_6, e2_0_7, e2_0_8, e2_0_9, e2_0_10, e2_0_11, e2_0_12, e2_0_24, e2_0_25, e2_0_28, e2_0_29, e2_0_30, e2_0_34, e2_0_35, e2_0_36, e2_0_38, ld_i, nI_add, pk_mul, neq, nlt, gn_lt, if_pos, if_neg, ite_tt, ite_ff, l_0, l_1, l_2, l_3, l_4, l_5, l_6, l_7, l_8, l_9, l_10, l_11, l_12, l_13, l_16, l_20, l_24, l_30, l_32, l_33, l_38, l_42, l_43, l_45, l_47, l_48, l_50, l_57, l_60, l_61, l_62, l_96, l_97, l_99, l_100, l_102, l_105, l_110, l_121, l_122, l_124, l_128, l_200, l_255, l_270, l_350, l_360, l_400, l_440, l_490, l_500, l_999, l_1000, l_9999, l_10000, l_99999, l_100000, l_1000000, l_1000000001, l_1000000002, l_1000000003, l_1000000005, l_1000000011, l_1000000012, l_1000000013, l_1000000014, c1, c5, c6, e2, orM_s]
          exact key
      refine ⟨_, ?_, C _ rfl, D _ rfl⟩
      by_cases hw : w = nI v
      · exact Or.inr (if_pos hw)
      · exact Or.inl (if_neg hw)
    · have C : ∀ r, r = (if -50 ≤ w.toInt - (v : Int) ∧ w.toInt - (v : Int) ≤ 50 then nI 1 else nI 0) → OkC M r (f_X6_fits b (nI f) (nI 3) M) := by
        intro r hr
        have key : OkC M r (bd (f_X6_worked b (nI f) M) fun x2 M => if Int32.toInt64 x2 - Int32.toInt64 (M (b + 5) f) < Int32.toInt64 (-nI 50) then some (nI 0, M) else if Int32.toInt64 (nI 50) < Int32.toInt64 x2 - Int32.toInt64 (M (b + 5) f) then some (nI 0, M) else some (nI 1, M)) := by
          refine OkC.then (o1 M Ec.rfl') (fun M' e => ?_)
          have a3' : M' (b + 5) f = nI v := by rw [e (b + 5) (by omega) (by omega) (by omega) (by omega) (by omega) (by omega)]; exact a3
          simp only [a3', w64a w v 50 q3 (by omega), w64b w v 50 q3 (by omega)]
          rw [hr]
          by_cases h1 : w.toInt - (v : Int) < -((50 : Nat) : Int)
          · rw [if_pos h1, if_neg (by omega)]; exact OkC.mk e
          · rw [if_neg h1]
            by_cases h2 : ((50 : Nat) : Int) < w.toInt - (v : Int)
            · rw [if_pos h2, if_neg (by omega)]; exact OkC.mk e
            · rw [if_neg h2, if_pos (by omega)]; exact OkC.mk e
        unfold f_X6_fits f_X6_isWorkedWithin f_X6_isWorked
        rcases c6 with c6 | ⟨f', hf', c6⟩
        · simp (maxSteps := 1000000) (disch := omega) only [vv_e, mm_e, jn_e, bd_e, bd_i, gb_0_0, gb_0_1, gb_0_2, gb_0_3, gb_0_4, gb_0_5, gb_0_9, gb_1_1, gb_1_3, gb_1_4, gb_1_5, gb_1_6, gb_1_7, gb_8_1, gb_8_2, gb_8_3, gb_8_4, gb_8_5, gb_8_6, gb_15_0, gb_15_1, gb_18_0, gb_18_2, gb_18_3, gb_18_4, gb_23_1, gb_23_2, gb_23_3, gb_23_5, s_has, f1, ld_i, neq, ng_eq, gn_eq, ng_le, gn_lt, nle, nlt, if_pos, if_neg, ite_tt, ite_ff, if_b2, if_b2n, l_0, l_1, l_2, l_3, l_4, l_5, l_6, l_7, l_8, l_9, l_10, l_11, l_12, l_13, l_16, l_20, l_24, l_30, l_32, l_33, l_38, l_42, l_43, l_45, l_47, l_48, l_50, l_57, l_60, l_61, l_62, l_96, l_97, l_99, l_100, l_102, l_105, l_110, l_121, l_122, l_124, l_128, l_200, l_255, l_270, l_350, l_360, l_400, l_440, l_490, l_500, l_999, l_1000, l_9999, l_10000, l_99999, l_100000, l_1000000, l_1000000001, l_1000000002, l_1000000003, l_1000000005, l_1000000011, l_1000000012, l_1000000013, l_1000000014, a1, a3, c6, e1, orN_s, lgc_lt', lgc_gt', bd_v, bd_b]
          exact key
        · simp (maxSteps := 1000000) (disch := omega) only [vv_e, mm_e, jn_e, bd_e, bd_i, gb_0_0, gb_0_1, gb_0_2, gb_0_3, gb_0_4, gb_0_5, gb_0_9, gb_1_1, gb_1_3, gb_1_4, gb_1_5, gb_1_6, gb_1_7, gb_8_1, gb_8_2, gb_8_3, gb_8_4, gb_8_5, gb_8_6, gb_15_0, gb_15_1, gb_18_0, gb_18_2, gb_18_3, gb_18_4, gb_23_1, gb_23_2, gb_23_3, gb_23_5, s_has, f1, ld_i, neq, ng_eq, gn_eq, ng_le, gn_lt, nle, nlt, if_pos, if_neg, ite_tt, ite_ff, if_b2, if_b2n, l_0, l_1, l_2, l_3, l_4, l_5, l_6, l_7, l_8, l_9, l_10, l_11, l_12, l_13, l_16, l_20, l_24, l_30, l_32, l_33, l_38, l_42, l_43, l_45, l_47, l_48, l_50, l_57, l_60, l_61, l_62, l_96, l_97, l_99, l_100, l_102, l_105, l_110, l_121, l_122, l_124, l_128, l_200, l_255, l_270, l_350, l_360, l_400, l_440, l_490, l_500, l_999, l_1000, l_9999, l_10000, l_99999, l_100000, l_1000000, l_1000000001, l_1000000002, l_1000000003, l_1000000005, l_1000000011, l_1000000012, l_1000000013, l_1000000014, a1, a3, c6, e1, orN_s, lgc_lt', lgc_gt', bd_v, bd_b]
          exact key
      have D : ∀ r, r = (if -50 ≤ w.toInt - (v : Int) ∧ w.toInt - (v : Int) ≤ 50 then nI 1 else nI 0) → OkM N r (f_X10_fits 0 (nI f) (nI 3) N) := by
        intro r hr
        have key : OkM N r (bd (f_X10_workedOf 0 (nI f) N) fun x25 M => bd (f_X10_isIn (Int32.toInt64 x25 - Int32.toInt64 (M 1 (30 + 6 * f + 2))) (-50) 50 M) fun x28 M => if x28 = nI 0 then some (nI 0, M) else some (nI 1, M)) := by
          refine OkM.then (o2 N Em.rfl') (fun N' e => ?_)
          have c3' : N' 1 (30 + 6 * f + 2) = nI v := by rw [e.1 1 (by omega)]; exact c3
          rw [c3', y_in50 w v q3, bd_e, if_b2n, hr]
          split <;> exact OkM.mk e
        unfold f_X10_fits f_X10_figureAt
        rcases c6 with c6 | ⟨f', hf', c6⟩
        · simp (maxSteps := 1000000) (disch := omega) only [vv_e, mm_e, jn_e, bd_e, bd_i, e2_0_0, e2_0_1, e2_0_2, e2_0_4, e2_0_5, e2_0_6, e2_0_7, e2_0_8, e2_0_9, e2_0_10, e2_0_11, e2_0_12, e2_0_24, e2_0_25, e2_0_28, e2_0_29, e2_0_30, e2_0_34, e2_0_35, e2_0_36, e2_0_38, ld_i, nI_add, pk_mul, neq, nlt, gn_lt, if_pos, if_neg, ite_tt, ite_ff, l_0, l_1, l_2, l_3, l_4, l_5, l_6, l_7, l_8, l_9, l_10, l_11, l_12, l_13, l_16, l_20, l_24, l_30, l_32, l_33, l_38, l_42, l_43, l_45, l_47, l_48, l_50, l_57, l_60, l_61, l_62, l_96, l_97, l_99, l_100, l_102, l_105, l_110, l_121, l_122, l_124, l_128, l_200, l_255, l_270, l_350, l_360, l_400, l_440, l_490, l_500, l_999, l_1000, l_9999, l_10000, l_99999, l_100000, l_1000000, l_1000000001, l_1000000002, l_1000000003, l_1000000005, l_1000000011, l_1000000012, l_1000000013, l_1000000014, c1, c5, c6, e2, orM_s]
          exact key
        · simp (maxSteps := 1000000) (disch := omega) only [vv_e, mm_e, jn_e, bd_e, bd_i, e2_0_0, e2_0_1, e2_0_2, e2_0_4, e2_0_5, e2_0_6, e2_0_7, e2_0_8, e2_0_9, e2_0_10, e2_0_11, e2_0_12, e2_0_24, e2_0_25, e2_0_28, e2_0_29, e2_0_30, e2_0_34, e2_0_35, e2_0_36, e2_0_38, ld_i, nI_add, pk_mul, neq, nlt, gn_lt, if_pos, if_neg, ite_tt, ite_ff, l_0, l_1, l_2, l_3, l_4, l_5, l_6, l_7, l_8, l_9, l_10, l_11, l_12, l_13, l_16, l_20, l_24, l_30, l_32, l_33, l_38, l_42, l_43, l_45, l_47, l_48, l_50, l_57, l_60, l_61, l_62, l_96, l_97, l_99, l_100, l_102, l_105, l_110, l_121, l_122, l_124, l_128, l_200, l_255, l_270, l_350, l_360, l_400, l_440, l_490, l_500, l_999, l_1000, l_9999, l_10000, l_99999, l_100000, l_1000000, l_1000000001, l_1000000002, l_1000000003, l_1000000005, l_1000000011, l_1000000012, l_1000000013, l_1000000014, c1, c5, c6, e2, orM_s]
          exact key
      refine ⟨_, ?_, C _ rfl, D _ rfl⟩
      by_cases hw : -50 ≤ w.toInt - (v : Int) ∧ w.toInt - (v : Int) ≤ 50
      · exact Or.inr (if_pos hw)
      · exact Or.inl (if_neg hw)
theorem fits_457 (hb : b = 1 ∨ b = 31) (h : RS nT nF nX nC nE nL nS M b (N 1)) {f : Nat} (hf : f < nF) {kd : Nat} (hk : kd = 4 ∨ kd = 5 ∨ kd = 7) : ∃ v, (v = nI 0 ∨ v = nI 1) ∧ OkC M v (f_X6_fits b (nI f) (nI kd) M) ∧ OkM N v (f_X10_fits 0 (nI f) (nI kd) N) := by
  obtain ⟨hT, hF, hX, -⟩ := id h
  obtain ⟨f1, f2, f3, f4⟩ := id hF
  obtain ⟨t, k, v, p, q1, q2, q3, q4, q5, a1, a2, a3, a4, c1, c2, c3, c4, c5, c6⟩ := hF.fig hf
  have e2 := y_cnt hX (nI t)
  unfold f_X6_fits f_X10_fits f_X10_figureAt
  rcases c6 with c6 | ⟨f', hf', c6⟩
  · refine ⟨nI 0, Or.inl rfl, ?_, ?_⟩
    · rcases hk with rfl | rfl | rfl <;> simp (maxSteps := 1000000) (disch := omega) only [vv_e, mm_e, jn_e, bd_e, bd_i, gb_0_0, gb_0_1, gb_0_2, gb_0_3, gb_0_4, gb_0_5, gb_0_9, gb_1_1, gb_1_3, gb_1_4, gb_1_5, gb_1_6, gb_1_7, gb_8_1, gb_8_2, gb_8_3, gb_8_4, gb_8_5, gb_8_6, gb_15_0, gb_15_1, gb_18_0, gb_18_2, gb_18_3, gb_18_4, gb_23_1, gb_23_2, gb_23_3, gb_23_5, s_has, f1, ld_i, st_i, la_i, sl_i, nI_add, pk_mul, pk_sub, ng_add, neg_neg_n, nlt, nle, neq, ng_lt, gn_lt, gg_lt, ng_le, gn_le, gg_le, ng_eq, gn_eq, gg_eq, dv_i, if_pos, if_neg, ite_tt, ite_ff, if_b2, if_b2n, l_0, l_1, l_2, l_3, l_4, l_5, l_6, l_7, l_8, l_9, l_10, l_11, l_12, l_13, l_16, l_20, l_24, l_30, l_32, l_33, l_38, l_42, l_43, l_45, l_47, l_48, l_50, l_57, l_60, l_61, l_62, l_96, l_97, l_99, l_100, l_102, l_105, l_110, l_121, l_122, l_124, l_128, l_200, l_255, l_270, l_350, l_360, l_400, l_440, l_490, l_500, l_999, l_1000, l_9999, l_10000, l_99999, l_100000, l_1000000, l_1000000001, l_1000000002, l_1000000003, l_1000000005, l_1000000011, l_1000000012, l_1000000013, l_1000000014, a3, c6] <;> exact OkC.mk Ec.rfl'
    · rcases hk with rfl | rfl | rfl <;> simp (maxSteps := 1000000) (disch := omega) only [vv_e, mm_e, jn_e, bd_e, bd_i, e2_0_0, e2_0_1, e2_0_2, e2_0_4, e2_0_5, e2_0_6, e2_0_7, e2_0_8, e2_0_9, e2_0_10, e2_0_11, e2_0_12, e2_0_24, e2_0_25, e2_0_28, e2_0_29, e2_0_30, e2_0_34, e2_0_35, e2_0_36, e2_0_38, ld_i, st_i, la_i, sl_i, nI_add, pk_mul, pk_sub, ng_add, neg_neg_n, nlt, nle, neq, ng_lt, gn_lt, gg_lt, ng_le, gn_le, gg_le, ng_eq, gn_eq, gg_eq, dv_i, if_pos, if_neg, ite_tt, ite_ff, if_b2, if_b2n, l_0, l_1, l_2, l_3, l_4, l_5, l_6, l_7, l_8, l_9, l_10, l_11, l_12, l_13, l_16, l_20, l_24, l_30, l_32, l_33, l_38, l_42, l_43, l_45, l_47, l_48, l_50, l_57, l_60, l_61, l_62, l_96, l_97, l_99, l_100, l_102, l_105, l_110, l_121, l_122, l_124, l_128, l_200, l_255, l_270, l_350, l_360, l_400, l_440, l_490, l_500, l_999, l_1000, l_9999, l_10000, l_99999, l_100000, l_1000000, l_1000000001, l_1000000002, l_1000000003, l_1000000005, l_1000000011, l_1000000012, l_1000000013, l_1000000014, c1, c5, c6, e2, ite_self] <;> exact OkM.mk Em.rfl'
  · obtain ⟨t2', k2, v2, p2, w1, w2, w3, w4, w5, b1, b9, b3, b4, d1, d2, d3, d4, d5, d6⟩ := hF.fig (show f' < nF by omega)
    rcases hk with rfl | rfl | rfl
    · simp (maxSteps := 1000000) (disch := omega) only [vv_e, mm_e, jn_e, bd_e, bd_i, gb_0_0, gb_0_1, gb_0_2, gb_0_3, gb_0_4, gb_0_5, gb_0_9, gb_1_1, gb_1_3, gb_1_4, gb_1_5, gb_1_6, gb_1_7, gb_8_1, gb_8_2, gb_8_3, gb_8_4, gb_8_5, gb_8_6, gb_15_0, gb_15_1, gb_18_0, gb_18_2, gb_18_3, gb_18_4, gb_23_1, gb_23_2, gb_23_3, gb_23_5, e2_0_0, e2_0_1, e2_0_2, e2_0_4, e2_0_5, e2_0_6, e2_0_7, e2_0_8, e2_0_9, e2_0_10, e2_0_11, e2_0_12, e2_0_24, e2_0_25, e2_0_28, e2_0_29, e2_0_30, e2_0_34, e2_0_35, e2_0_36, e2_0_38, s_has, f1, ld_i, st_i, la_i, sl_i, nI_add, pk_mul, pk_sub, ng_add, neg_neg_n, nlt, nle, neq, ng_lt, gn_lt, gg_lt, ng_le, gn_le, gg_le, ng_eq, gn_eq, gg_eq, dv_i, if_pos, if_neg, ite_tt, ite_ff, if_b2, if_b2n, l_0, l_1, l_2, l_3, l_4, l_5, l_6, l_7, l_8, l_9, l_10, l_11, l_12, l_13, l_16, l_20, l_24, l_30, l_32, l_33, l_38, l_42, l_43, l_45, l_47, l_48, l_50, l_57, l_60, l_61, l_62, l_96, l_97, l_99, l_100, l_102, l_105, l_110, l_121, l_122, l_124, l_128, l_200, l_255, l_270, l_350, l_360, l_400, l_440, l_490, l_500, l_999, l_1000, l_9999, l_10000, l_99999, l_100000, l_1000000, l_1000000001, l_1000000002, l_1000000003, l_1000000005, l_1000000011, l_1000000012, l_1000000013, l_1000000014, a3, c6, b3, c1, c3, c5, e2, d3, ite_self]
      by_cases hv : v2 = v
      · rw [if_pos hv, if_pos hv]
        exact ⟨nI 1, Or.inr rfl, OkC.mk Ec.rfl', OkM.mk Em.rfl'⟩
      · rw [if_neg hv, if_neg hv]
        exact ⟨nI 0, Or.inl rfl, OkC.mk Ec.rfl', OkM.mk Em.rfl'⟩
    · simp (maxSteps := 1000000) (disch := omega) only [vv_e, mm_e, jn_e, bd_e, bd_i, gb_0_0, gb_0_1, gb_0_2, gb_0_3, gb_0_4, gb_0_5, gb_0_9, gb_1_1, gb_1_3, gb_1_4, gb_1_5, gb_1_6, gb_1_7, gb_8_1, gb_8_2, gb_8_3, gb_8_4, gb_8_5, gb_8_6, gb_15_0, gb_15_1, gb_18_0, gb_18_2, gb_18_3, gb_18_4, gb_23_1, gb_23_2, gb_23_3, gb_23_5, e2_0_0, e2_0_1, e2_0_2, e2_0_4, e2_0_5, e2_0_6, e2_0_7, e2_0_8, e2_0_9, e2_0_10, e2_0_11, e2_0_12, e2_0_24, e2_0_25, e2_0_28, e2_0_29, e2_0_30, e2_0_34, e2_0_35, e2_0_36, e2_0_38, s_has, f1, ld_i, st_i, la_i, sl_i, nI_add, pk_mul, pk_sub, ng_add, neg_neg_n, nlt, nle, neq, ng_lt, gn_lt, gg_lt, ng_le, gn_le, gg_le, ng_eq, gn_eq, gg_eq, dv_i, if_pos, if_neg, ite_tt, ite_ff, if_b2, if_b2n, l_0, l_1, l_2, l_3, l_4, l_5, l_6, l_7, l_8, l_9, l_10, l_11, l_12, l_13, l_16, l_20, l_24, l_30, l_32, l_33, l_38, l_42, l_43, l_45, l_47, l_48, l_50, l_57, l_60, l_61, l_62, l_96, l_97, l_99, l_100, l_102, l_105, l_110, l_121, l_122, l_124, l_128, l_200, l_255, l_270, l_350, l_360, l_400, l_440, l_490, l_500, l_999, l_1000, l_9999, l_10000, l_99999, l_100000, l_1000000, l_1000000001, l_1000000002, l_1000000003, l_1000000005, l_1000000011, l_1000000012, l_1000000013, l_1000000014, a3, c6, b3, c1, c3, c5, e2, d3, ite_self, x_unlike, y_unlike]
      by_cases hv : nI (cst4 v v2) = nI 1
      · rw [if_pos hv, if_pos hv]
        exact ⟨nI 1, Or.inr rfl, OkC.mk Ec.rfl', OkM.mk Em.rfl'⟩
      · rw [if_neg hv, if_neg hv]
        exact ⟨nI 0, Or.inl rfl, OkC.mk Ec.rfl', OkM.mk Em.rfl'⟩
    · simp (maxSteps := 1000000) (disch := omega) only [vv_e, mm_e, jn_e, bd_e, bd_i, gb_0_0, gb_0_1, gb_0_2, gb_0_3, gb_0_4, gb_0_5, gb_0_9, gb_1_1, gb_1_3, gb_1_4, gb_1_5, gb_1_6, gb_1_7, gb_8_1, gb_8_2, gb_8_3, gb_8_4, gb_8_5, gb_8_6, gb_15_0, gb_15_1, gb_18_0, gb_18_2, gb_18_3, gb_18_4, gb_23_1, gb_23_2, gb_23_3, gb_23_5, e2_0_0, e2_0_1, e2_0_2, e2_0_4, e2_0_5, e2_0_6, e2_0_7, e2_0_8, e2_0_9, e2_0_10, e2_0_11, e2_0_12, e2_0_24, e2_0_25, e2_0_28, e2_0_29, e2_0_30, e2_0_34, e2_0_35, e2_0_36, e2_0_38, s_has, f1, ld_i, st_i, la_i, sl_i, nI_add, pk_mul, pk_sub, ng_add, neg_neg_n, nlt, nle, neq, ng_lt, gn_lt, gg_lt, ng_le, gn_le, gg_le, ng_eq, gn_eq, gg_eq, dv_i, if_pos, if_neg, ite_tt, ite_ff, if_b2, if_b2n, l_0, l_1, l_2, l_3, l_4, l_5, l_6, l_7, l_8, l_9, l_10, l_11, l_12, l_13, l_16, l_20, l_24, l_30, l_32, l_33, l_38, l_42, l_43, l_45, l_47, l_48, l_50, l_57, l_60, l_61, l_62, l_96, l_97, l_99, l_100, l_102, l_105, l_110, l_121, l_122, l_124, l_128, l_200, l_255, l_270, l_350, l_360, l_400, l_440, l_490, l_500, l_999, l_1000, l_9999, l_10000, l_99999, l_100000, l_1000000, l_1000000001, l_1000000002, l_1000000003, l_1000000005, l_1000000011, l_1000000012, l_1000000013, l_1000000014, a3, c6, b3, c1, c3, c5, e2, d3, ite_self, jr_n]
      rw [Nat.add_comm v2 v]
      by_cases hv : (v + v2) % 2 = 0
      · rw [if_pos hv, if_pos hv]
        exact ⟨nI 1, Or.inr rfl, OkC.mk Ec.rfl', OkM.mk Em.rfl'⟩
      · rw [if_neg hv, if_neg hv]
        exact ⟨nI 0, Or.inl rfl, OkC.mk Ec.rfl', OkM.mk Em.rfl'⟩
theorem fits_eq (hb : b = 1 ∨ b = 31) (h : RS nT nF nX nC nE nL nS M b (N 1)) {f : Nat} (hf : f < nF) {kd : Nat} (hk : kd < 8) : ∃ v, (v = nI 0 ∨ v = nI 1) ∧ OkC M v (f_X6_fits b (nI f) (nI kd) M) ∧ OkM N v (f_X10_fits 0 (nI f) (nI kd) N) := by
  rcases (show (kd = 0 ∨ kd = 6) ∨ kd = 1 ∨ (kd = 2 ∨ kd = 3) ∨ (kd = 4 ∨ kd = 5 ∨ kd = 7) by omega) with q | rfl | q | q
  · exact fits_06 hb h hf q
  · exact fits_1 hb h hf
  · exact fits_23 hb h hf q
  · exact fits_457 hb h hf q
theorem fits_det (hb : b = 1 ∨ b = 31) (h : RS nT nF nX nC nE nL nS M b (N 1)) {f : Nat} (hf : f < nF) {kd : Nat} (hk : kd < 8) : ∃ v, (v = nI 0 ∨ v = nI 1) ∧ (∀ M', Ec M M' → OkC M' v (f_X6_fits b (nI f) (nI kd) M')) ∧ ∀ N', Em N N' → OkM N' v (f_X10_fits 0 (nI f) (nI kd) N') :=
  det (M := M) (N := N) (P := fun v => v = nI 0 ∨ v = nI 1) (x := fun M' => f_X6_fits b (nI f) (nI kd) M') (y := fun N' => f_X10_fits 0 (nI f) (nI kd) N') (fun M' N' e1 e2 => fits_eq (N := N') hb (by rw [e2.1 1 (by omega)]; exact h.ec hb e1) hf hk)
end
