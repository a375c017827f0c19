theorem y_worked (t m : Nat) (nm : Int32 → Int32) (N : Mem) (key : Int32) (x w v : Nat → Int32) (d : Nat → Nat) (ht : t < 14)
    (hl : N 1 (500 + 200 * t + 2) = nI m) (hm : m ≤ 96) (hw : ∀ k, k < m → N 1 (500 + 200 * t + 4 + 2 * k) = w k ∧ N 1 (500 + 200 * t + 4 + 2 * k + 1) = v k)
    (d0 : d 0 = 0) (dm : d m = 1) (hst : ∀ k, k < m → StepOK key (x k) (w k) (v k) (d k) (d (k + 1)))
    (hn : ∀ i u, NameOK key i u → N 13 u = nm (nI u)) :
    Res (fun r N' => r = ev nm w v m ∧ ∀ q, q ≠ 14 → N' q = N q) (f_X10_worked 0 (nI t) N) := by
  have hd := sq_d (nm := nm) (x := x) d0 hst
  unfold f_X10_worked f_X10_textAt
  simp (maxSteps := 1000000) (disch := omega) only [vv_e, mm_e, jn_e, bd_e, bd_i, e2_0_0, e2_0_1, e2_0_2, e2_0_4, e2_0_5, e2_0_6, e2_0_7, e2_0_8, e2_0_9, e2_0_10, e2_0_11, e2_0_12, e2_0_24, e2_0_25, e2_0_28, e2_0_29, e2_0_30, e2_0_34, e2_0_35, e2_0_36, e2_0_38, ld_i, st_i, la_i, sl_i, nI_add, pk_mul, pk_sub, ng_add, neg_neg_n, nlt, nle, neq, ng_lt, gn_lt, gg_lt, ng_le, gn_le, gg_le, ng_eq, gn_eq, gg_eq, dv_i, if_pos, if_neg, ite_tt, ite_ff, if_b2, if_b2n, l_0, l_1, l_2, l_3, l_4, l_5, l_6, l_7, l_8, l_9, l_10, l_11, l_12, l_13, l_16, l_20, l_24, l_30, l_32, l_33, l_38, l_42, l_43, l_45, l_47, l_48, l_50, l_57, l_60, l_61, l_62, l_96, l_97, l_99, l_100, l_102, l_105, l_110, l_121, l_122, l_124, l_128, l_200, l_255, l_270, l_350, l_360, l_400, l_440, l_490, l_500, l_999, l_1000, l_9999, l_10000, l_99999, l_100000, l_1000000, l_1000000001, l_1000000002, l_1000000003, l_1000000005, l_1000000011, l_1000000012, l_1000000013, l_1000000014]
  refine lo2 (fun n x y M' => ∃ k, k + n = m ∧ x = nI (d k) ∧ y = nI k ∧ (∀ j, j < d k → M' 14 j = (sq nm w v k).2 j) ∧ ∀ q, q ≠ 14 → M' q = N q) ?_ fuel m _ _ N (by unfold fuel; omega) ⟨0, by omega, by rw [d0], rfl, fun j hj => by omega, fun _ _ => rfl⟩
  rintro n rc _ _ M' ⟨k, hk, rfl, rfl, hS, hM⟩ ih
  obtain ⟨e1, e2⟩ := hd k (by omega)
  have g1 := hM 1 (by decide)
  have g13 := hM 13 (by decide)
  simp (maxSteps := 1000000) (disch := omega) only [vv_e, mm_e, jn_e, bd_e, bd_i, ld_i, st_i, la_i, sl_i, nI_add, pk_mul, pk_sub, ng_add, neg_neg_n, nlt, nle, neq, ng_lt, gn_lt, gg_lt, ng_le, gn_le, gg_le, ng_eq, gn_eq, gg_eq, dv_i, if_pos, if_neg, ite_tt, ite_ff, if_b2, if_b2n, l_0, l_1, l_2, l_3, l_4, l_5, l_6, l_7, l_8, l_9, l_10, l_11, l_12, l_13, l_16, l_20, l_24, l_30, l_32, l_33, l_38, l_42, l_43, l_45, l_47, l_48, l_50, l_57, l_60, l_61, l_62, l_96, l_97, l_99, l_100, l_102, l_105, l_110, l_121, l_122, l_124, l_128, l_200, l_255, l_270, l_350, l_360, l_400, l_440, l_490, l_500, l_999, l_1000, l_9999, l_10000, l_99999, l_100000, l_1000000, l_1000000001, l_1000000002, l_1000000003, l_1000000005, l_1000000011, l_1000000012, l_1000000013, l_1000000014, g1, hl]
  by_cases hkm : k = m
  · subst hkm
    simp (maxSteps := 1000000) (disch := omega) only [vv_e, mm_e, jn_e, bd_e, bd_i, ld_i, st_i, la_i, sl_i, nI_add, pk_mul, pk_sub, ng_add, neg_neg_n, nlt, nle, neq, ng_lt, gn_lt, gg_lt, ng_le, gn_le, gg_le, ng_eq, gn_eq, gg_eq, dv_i, if_pos, if_neg, ite_tt, ite_ff, if_b2, if_b2n, l_0, l_1, l_2, l_3, l_4, l_5, l_6, l_7, l_8, l_9, l_10, l_11, l_12, l_13, l_16, l_20, l_24, l_30, l_32, l_33, l_38, l_42, l_43, l_45, l_47, l_48, l_50, l_57, l_60, l_61, l_62, l_96, l_97, l_99, l_100, l_102, l_105, l_110, l_121, l_122, l_124, l_128, l_200, l_255, l_270, l_350, l_360, l_400, l_440, l_490, l_500, l_999, l_1000, l_9999, l_10000, l_99999, l_100000, l_1000000, l_1000000001, l_1000000002, l_1000000003, l_1000000005, l_1000000011, l_1000000012, l_1000000013, l_1000000014]
    refine Res.mk ⟨?_, hM⟩
    exact hS 0 (by omega)
  obtain ⟨w1, w2⟩ := hw k (by omega)
  have ih' := ih (n - 1)
  rcases step_cases (hst k (by omega)) with ⟨u, hu, h1, h2, h3, h4⟩ | ⟨i, u, hu, h1, h2, h3, h4⟩ | ⟨h1, h2, h3, h4, h5⟩ | ⟨u, hu, h1, h2, h3, h4, h5⟩
  · simp (maxSteps := 1000000) (disch := omega) only [vv_e, mm_e, jn_e, bd_e, bd_i, ld_i, st_i, la_i, sl_i, nI_add, pk_mul, pk_sub, ng_add, neg_neg_n, nlt, nle, neq, ng_lt, gn_lt, gg_lt, ng_le, gn_le, gg_le, ng_eq, gn_eq, gg_eq, dv_i, if_pos, if_neg, ite_tt, ite_ff, if_b2, if_b2n, l_0, l_1, l_2, l_3, l_4, l_5, l_6, l_7, l_8, l_9, l_10, l_11, l_12, l_13, l_16, l_20, l_24, l_30, l_32, l_33, l_38, l_42, l_43, l_45, l_47, l_48, l_50, l_57, l_60, l_61, l_62, l_96, l_97, l_99, l_100, l_102, l_105, l_110, l_121, l_122, l_124, l_128, l_200, l_255, l_270, l_350, l_360, l_400, l_440, l_490, l_500, l_999, l_1000, l_9999, l_10000, l_99999, l_100000, l_1000000, l_1000000001, l_1000000002, l_1000000003, l_1000000005, l_1000000011, l_1000000012, l_1000000013, l_1000000014, w1, w2, h2]
    refine ih' _ _ _ (by omega) ⟨k + 1, by omega, by rw [h4], rfl, ?_, fun q hq => by rw [up_ne hq]; exact hM q hq⟩
    rw [sq, h2, sg0, e1, up_at, h4, h3]
    exact upd_cg (fun j hj hj' => hS j (by omega))
  · obtain ⟨b1, b2, b3⟩ := hu.b
    simp (maxSteps := 1000000) (disch := omega) only [vv_e, mm_e, jn_e, bd_e, bd_i, ld_i, st_i, la_i, sl_i, nI_add, pk_mul, pk_sub, ng_add, neg_neg_n, nlt, nle, neq, ng_lt, gn_lt, gg_lt, ng_le, gn_le, gg_le, ng_eq, gn_eq, gg_eq, dv_i, if_pos, if_neg, ite_tt, ite_ff, if_b2, if_b2n, l_0, l_1, l_2, l_3, l_4, l_5, l_6, l_7, l_8, l_9, l_10, l_11, l_12, l_13, l_16, l_20, l_24, l_30, l_32, l_33, l_38, l_42, l_43, l_45, l_47, l_48, l_50, l_57, l_60, l_61, l_62, l_96, l_97, l_99, l_100, l_102, l_105, l_110, l_121, l_122, l_124, l_128, l_200, l_255, l_270, l_350, l_360, l_400, l_440, l_490, l_500, l_999, l_1000, l_9999, l_10000, l_99999, l_100000, l_1000000, l_1000000001, l_1000000002, l_1000000003, l_1000000005, l_1000000011, l_1000000012, l_1000000013, l_1000000014, w1, w2, h2, h3, g13, hn i u hu]
    refine ih' _ _ _ (by omega) ⟨k + 1, by omega, by rw [h4], rfl, ?_, fun q hq => by rw [up_ne hq]; exact hM q hq⟩
    rw [sq, h2, sg1, e1, up_at, h4, h3]
    exact upd_cg (fun j hj hj' => hS j (by omega))
  · simp (maxSteps := 1000000) (disch := omega) only [vv_e, mm_e, jn_e, bd_e, bd_i, ld_i, st_i, la_i, sl_i, nI_add, pk_mul, pk_sub, ng_add, neg_neg_n, nlt, nle, neq, ng_lt, gn_lt, gg_lt, ng_le, gn_le, gg_le, ng_eq, gn_eq, gg_eq, dv_i, if_pos, if_neg, ite_tt, ite_ff, if_b2, if_b2n, l_0, l_1, l_2, l_3, l_4, l_5, l_6, l_7, l_8, l_9, l_10, l_11, l_12, l_13, l_16, l_20, l_24, l_30, l_32, l_33, l_38, l_42, l_43, l_45, l_47, l_48, l_50, l_57, l_60, l_61, l_62, l_96, l_97, l_99, l_100, l_102, l_105, l_110, l_121, l_122, l_124, l_128, l_200, l_255, l_270, l_350, l_360, l_400, l_440, l_490, l_500, l_999, l_1000, l_9999, l_10000, l_99999, l_100000, l_1000000, l_1000000001, l_1000000002, l_1000000003, l_1000000005, l_1000000011, l_1000000012, l_1000000013, l_1000000014, w1, w2, h2, h3]
    have hh : Res (fun r M' => r = ev nm w v m ∧ ∀ q, q ≠ 14 → M' q = N q) (rc (nI (d k)) (nI (k + 1)) (up M' 14 (d k - 1) (if M' 14 (d k - 1) = nI 0 then nI 1 else nI 0))) := by
      refine ih' _ _ _ (by omega) ⟨k + 1, by omega, by rw [h5], rfl, ?_, fun q hq => by rw [up_ne hq]; exact hM q hq⟩
      rw [sq, h2, h3, sg2, e1, up_at, h5, hS (d k - 1) (by omega)]
      exact upd_cg (fun j hj hj' => hS j (by omega))
    by_cases hz : M' 14 (d k - 1) = nI 0
    · rw [if_pos hz] at hh ⊢
      exact hh
    · rw [if_neg hz] at hh ⊢
      exact hh
  · have hub : u < 200 ∧ u ≠ 33 ∧ 3 < u := by unfold sgnN at hu; omega
    simp (maxSteps := 1000000) (disch := omega) only [vv_e, mm_e, jn_e, bd_e, bd_i, ld_i, st_i, la_i, sl_i, nI_add, pk_mul, pk_sub, ng_add, neg_neg_n, nlt, nle, neq, ng_lt, gn_lt, gg_lt, ng_le, gn_le, gg_le, ng_eq, gn_eq, gg_eq, dv_i, if_pos, if_neg, ite_tt, ite_ff, if_b2, if_b2n, l_0, l_1, l_2, l_3, l_4, l_5, l_6, l_7, l_8, l_9, l_10, l_11, l_12, l_13, l_16, l_20, l_24, l_30, l_32, l_33, l_38, l_42, l_43, l_45, l_47, l_48, l_50, l_57, l_60, l_61, l_62, l_96, l_97, l_99, l_100, l_102, l_105, l_110, l_121, l_122, l_124, l_128, l_200, l_255, l_270, l_350, l_360, l_400, l_440, l_490, l_500, l_999, l_1000, l_9999, l_10000, l_99999, l_100000, l_1000000, l_1000000001, l_1000000002, l_1000000003, l_1000000005, l_1000000011, l_1000000012, l_1000000013, l_1000000014, w1, w2, h2, h3, y_joined u _ _ _ hu]
    refine ih' _ _ _ (by omega) ⟨k + 1, by omega, by rw [show d k - 1 = d (k + 1) by omega], rfl, ?_, fun q hq => by rw [up_ne hq]; exact hM q hq⟩
    rw [sq, h2, h3, sg3 nm u hu, e1, up_at, show d k - 1 - 1 = d k - 2 by omega, hS (d k - 2) (by omega), hS (d k - 1) (by omega)]
    exact upd_cg (fun j hj hj' => hS j (by omega))
