theorem bv_mask (x m : BitVec 32) : x &&& (m ^^^ (-1#32)) = 0#32 ↔ x &&& m = x := by
  have hn : ∀ i, i < 32 → (-1#32).getLsbD i = true := by
    intro i hi
    rw [BitVec.neg_one_eq_allOnes, BitVec.getLsbD_allOnes]
    exact decide_eq_true hi
  constructor
  · intro h
    apply BitVec.eq_of_getLsbD_eq
    intro i hi
    have h2 : (x &&& (m ^^^ (-1#32))).getLsbD i = (0#32).getLsbD i := by rw [h]
    rw [BitVec.getLsbD_and, BitVec.getLsbD_xor, hn i hi, BitVec.getLsbD_zero] at h2
    rw [BitVec.getLsbD_and]
    revert h2
    cases x.getLsbD i <;> cases m.getLsbD i <;> simp
  · intro h
    apply BitVec.eq_of_getLsbD_eq
    intro i hi
    have h2 : (x &&& m).getLsbD i = x.getLsbD i := by rw [h]
    rw [BitVec.getLsbD_and] at h2
    rw [BitVec.getLsbD_and, BitVec.getLsbD_xor, hn i hi, BitVec.getLsbD_zero]
    revert h2
    cases x.getLsbD i <;> cases m.getLsbD i <;> simp
theorem mask_iff {n : Nat} (hn : n ≤ 16) (p : Int32) : (p &&& (nI (2 ^ n - 1) ^^^ (-1))) = 0 ↔ (0 ≤ p ∧ p ≤ nI (2 ^ n - 1)) := by
  have h16 : 2 ^ n ≤ 2 ^ 16 := Nat.pow_le_pow_right (by decide) hn
  have hp := Nat.two_pow_pos n
  have hm : (nI (2 ^ n - 1)).toBitVec.toNat = 2 ^ n - 1 := pk_tn (by omega)
  have e1 : (p &&& (nI (2 ^ n - 1) ^^^ (-1))) = 0 ↔ p &&& nI (2 ^ n - 1) = p := by
    rw [← Int32.toBitVec_inj, ← Int32.toBitVec_inj]
    exact bv_mask p.toBitVec (nI (2 ^ n - 1)).toBitVec
  rw [e1]
  constructor
  · intro h
    rw [pk_and p n hm] at h
    have hl : p.toBitVec.toNat % 2 ^ n < 2 ^ n := Nat.mod_lt _ hp
    rw [← h]
    exact ⟨nI_pos' (by omega), nI_le (by omega) (by omega)⟩
  · rintro ⟨h1, h2⟩
    obtain ⟨k, hk, rfl⟩ := rgN (by omega) ⟨h1, h2⟩
    rw [pk_andN (by omega) n hm, Nat.mod_eq_of_lt (by omega)]
theorem op_leaner : ∀ (p q r : Int32) (M N : Mem), Inv M N → Same (f_X9_leaner 0 p q r M) (f_X10_leaner 0 p q r N) := by
  intro p q r M N h
  obtain ⟨nT, nF, nX, nC, nE, nL, nS, hS, hT, hF, hX, hL, hC, hR, hD, hN, hO, hZ⟩ := h.st
  obtain ⟨t1, t2, t3, t4, t5⟩ := id hT
  obtain ⟨n1, n2, n3, n4⟩ := id hN
  have l1 : ((1 : Int32) <<< (nI nT &&& 31)) - 1 = nI (2 ^ nT - 1) := by
    have := low_n (n := nT) (by omega) M
    exact congrArg (fun z => (z.getD (0, M)).1) this
  have l2 : ((1 : Int32) <<< (nI nL &&& 31)) - 1 = nI (2 ^ nL - 1) := by
    have := low_n (n := nL) (by omega) M
    exact congrArg (fun z => (z.getD (0, M)).1) this
  have hpT := Nat.two_pow_pos nT
  have hpL := Nat.two_pow_pos nL
  have hT16 : 2 ^ nT ≤ 2 ^ 12 := Nat.pow_le_pow_right (by decide) t3
  have hL16 : 2 ^ nL ≤ 2 ^ 16 := Nat.pow_le_pow_right (by decide) n3
  unfold f_X9_leaner f_X10_leaner f_X1_addLeaner
  simp only [vv_e, mm_e, jn_e, bd_e, bd_i, e1_0_0, e1_0_1, e1_0_3, e1_0_4, e1_0_6, e1_0_7, e1_1_0, e1_1_1, e1_1_2, e1_1_3, e1_1_4, e1_1_5, e1_1_9, e1_2_1, e1_2_3, e1_2_4, e1_2_5, e1_2_6, e1_2_7, e1_9_1, e1_9_2, e1_9_3, e1_9_4, e1_9_5, e1_9_6, e1_16_0, e1_16_1, e1_19_0, e1_19_2, e1_19_3, e1_19_4, e1_24_1, e1_24_2, e1_24_3, e1_24_5, e1_61_0, e1_61_6, e2_0_0, e2_0_1, e2_0_2, e2_0_4, e2_0_5, e2_0_6, e2_0_7, e2_0_8, e2_0_9, e2_0_10, e2_0_11, e2_0_12, e2_0_24, e2_0_25, e2_0_28, e2_0_29, e2_0_30, e2_0_34, e2_0_35, e2_0_36, e2_0_38, ld_0, ld_5, t1, t2, n1, n2, l1, l2, low_n (n := nT) (by omega) M, low_n (n := nL) (by omega) M, s_within, if_b2, s_isInL p 0 (Int32.toInt64 (nI (2 ^ nT - 1))) 0 (nI (2 ^ nT - 1)) N rfl rfl, s_isInL q 0 (Int32.toInt64 (nI (2 ^ nL - 1))) 0 (nI (2 ^ nL - 1)) N rfl rfl, s_isInL r 0 28 0 28 N rfl rfl, mask_iff (n := nT) (by omega) p, mask_iff (n := nL) (by omega) q]
  by_cases hp : 0 ≤ p ∧ p ≤ nI (2 ^ nT - 1)
  case neg =>
    rw [if_neg hp, if_neg hp]
    exact Same.mk h
  rw [if_pos hp, if_pos hp]
  by_cases hq : 0 ≤ q ∧ q ≤ nI (2 ^ nL - 1)
  case neg =>
    rw [if_neg hq, if_neg hq]
    exact Same.mk h
  rw [if_pos hq, if_pos hq]
  by_cases hr : 0 ≤ r ∧ r ≤ 28
  case neg =>
    rw [if_neg hr, if_neg hr]
    exact Same.mk h
  rw [if_pos hr, if_pos hr]
  obtain ⟨pk, hpk, rfl⟩ := rgN (by omega) hp
  obtain ⟨qk, hqk, rfl⟩ := rgN (by omega) hq
  obtain ⟨rk, hrk, rfl⟩ := rgN (c := 28) (by omega) hr
  by_cases h16 : nL = 16
  · simp (maxSteps := 1000000) (disch := omega) only [ld_i, st_i, la_i, sl_i, nI_add, pk_mul, pk_sub, ng_add, neg_neg_n, nlt, nle, neq, ng_lt, gn_lt, gg_lt, ng_le, gn_le, gg_le, ng_eq, gn_eq, gg_eq, dv_i, if_pos, if_neg, ite_tt, ite_ff, if_b2, if_b2n, l_0, l_1, l_2, l_3, l_4, l_5, l_6, l_7, l_8, l_9, l_10, l_11, l_12, l_13, l_16, l_20, l_24, l_30, l_32, l_33, l_38, l_42, l_43, l_45, l_47, l_48, l_50, l_57, l_60, l_61, l_62, l_96, l_97, l_99, l_100, l_102, l_105, l_110, l_121, l_122, l_124, l_128, l_200, l_255, l_270, l_350, l_360, l_400, l_440, l_490, l_500, l_999, l_1000, l_9999, l_10000, l_99999, l_100000, l_1000000, l_1000000001, l_1000000002, l_1000000003, l_1000000005, l_1000000011, l_1000000012, l_1000000013, l_1000000014]
    exact Same.mk h
  simp (maxSteps := 1000000) (disch := omega) only [vv_e, mm_e, jn_e, bd_e, bd_i, ld_i, st_i, la_i, sl_i, nI_add, pk_mul, pk_sub, ng_add, neg_neg_n, nlt, nle, neq, ng_lt, gn_lt, gg_lt, ng_le, gn_le, gg_le, ng_eq, gn_eq, gg_eq, dv_i, if_pos, if_neg, ite_tt, ite_ff, if_b2, if_b2n, l_0, l_1, l_2, l_3, l_4, l_5, l_6, l_7, l_8, l_9, l_10, l_11, l_12, l_13, l_16, l_20, l_24, l_30, l_32, l_33, l_38, l_42, l_43, l_45, l_47, l_48, l_50, l_57, l_60, l_61, l_62, l_96, l_97, l_99, l_100, l_102, l_105, l_110, l_121, l_122, l_124, l_128, l_200, l_255, l_270, l_350, l_360, l_400, l_440, l_490, l_500, l_999, l_1000, l_9999, l_10000, l_99999, l_100000, l_1000000, l_1000000001, l_1000000002, l_1000000003, l_1000000005, l_1000000011, l_1000000012, l_1000000013, l_1000000014, up_a, up_k, up_same, n1, n2, Nat.add_sub_cancel]
  have e : ∀ j, j ≠ 5 → j ≠ 440 + 3 * nL → j ≠ 440 + 3 * nL + 1 → j ≠ 440 + 3 * nL + 2 → up (up (up (up N 1 (440 + 3 * nL) (nI pk)) 1 (440 + 3 * nL + 1) (nI qk)) 1 (440 + 3 * nL + 2) (nI rk)) 1 5 (nI (nL + 1)) 1 j = N 1 j := fun j h1 h2 h3 h4 => by rw [up_k _ _ _ _ _ h1, up_k _ _ _ _ _ h4, up_k _ _ _ _ _ h3, up_k _ _ _ _ _ h2]
  refine Same.mk (inv_now h (fun a ha => by rw [up_ne (by omega), up_ne (by omega), up_ne (by omega), up_ne (by omega)]) rfl rfl rfl (fun a ha => by rw [up_ne (by omega), up_ne (by omega), up_ne (by omega), up_ne (by omega)]) ⟨nT, nF, nX, nC, nE, nL + 1, nS, hT.cg (fun j hj => e j (by omega) (by omega) (by omega) (by omega)), hF.cg (fun j hj => e j (by omega) (by omega) (by omega) (by omega)), hX.cg (fun j hj => e j (by omega) (by omega) (by omega) (by omega)), hL.cg hF.2.2.1 (fun j hj => e j (by omega) (by omega) (by omega) (by omega)), hC.cg (fun j hj => e j (by omega) (by omega) (by omega) (by omega)), hR.cg (fun j hj => e j (by omega) (by omega) (by omega) (by omega)), hD.cg (fun j hj => e j (by omega) (by omega) (by omega) (by omega)), ?_, hO.cg (fun j hj => e j (by omega) (by omega) (by omega) (by omega)), hZ.cg (fun j hj => e j (by omega) (by omega) (by omega) (by omega))⟩)
  refine ⟨up_same _ _ _ _, up_same _ _ _ _, by omega, fun k hk => ?_⟩
  simp only [Nat.reduceAdd]
  by_cases hkn : k = nL
  · subst hkn
    simp (maxSteps := 1000000) (disch := omega) only [up_a, up_k, up_same, show 441 + 3 * k = 440 + 3 * k + 1 by omega, show 442 + 3 * k = 440 + 3 * k + 2 by omega]
    exact ⟨trivial, trivial, trivial, ⟨pk, by omega, rfl⟩, ⟨qk, by omega, rfl⟩, ⟨rk, by omega, rfl⟩⟩
  · simp (maxSteps := 1000000) (disch := omega) only [up_a, up_k, up_same]
    exact n4 k (by omega)
theorem op_diary : ∀ (p q : Int32) (M N : Mem), Inv M N → Same (f_X9_diary 0 p q M) (f_X10_diary 0 p q N) := by
  intro p q M N h
  obtain ⟨nT, nF, nX, nC, nE, nL, nS, hS, hT, hF, hX, hL, hC, hR, hD, hN, hO, hZ⟩ := h.st
  obtain ⟨d1, d2, d3, d4⟩ := id hD
  unfold f_X9_diary f_X10_diary
  simp only [vv_e, mm_e, jn_e, bd_e, bd_i, e1_0_0, e1_0_1, e1_0_3, e1_0_4, e1_0_6, e1_0_7, e1_1_0, e1_1_1, e1_1_2, e1_1_3, e1_1_4, e1_1_5, e1_1_9, e1_2_1, e1_2_3, e1_2_4, e1_2_5, e1_2_6, e1_2_7, e1_9_1, e1_9_2, e1_9_3, e1_9_4, e1_9_5, e1_9_6, e1_16_0, e1_16_1, e1_19_0, e1_19_2, e1_19_3, e1_19_4, e1_24_1, e1_24_2, e1_24_3, e1_24_5, e1_61_0, e1_61_6, e2_0_0, e2_0_1, e2_0_2, e2_0_4, e2_0_5, e2_0_6, e2_0_7, e2_0_8, e2_0_9, e2_0_10, e2_0_11, e2_0_12, e2_0_24, e2_0_25, e2_0_28, e2_0_29, e2_0_30, e2_0_34, e2_0_35, e2_0_36, e2_0_38, s_within, if_b2, s_isPlace, y_isPlace, s_isInL p 0 9999 0 9999 N rfl rfl]
  by_cases hp : 0 ≤ p ∧ p ≤ 9999
  case neg =>
    rw [if_neg hp, if_neg hp]
    exact Same.mk h
  rw [if_pos hp, if_pos hp]
  by_cases hq : 0 ≤ q ∧ q ≤ 5
  case neg =>
    rw [if_neg hq, if_neg hq]
    exact Same.mk h
  rw [if_pos hq, if_pos hq]
  obtain ⟨pk, hpk, rfl⟩ := rgN (c := 9999) (by omega) hp
  obtain ⟨qk, hqk, rfl⟩ := rgN (c := 5) (by omega) hq
  have hday : ∀ v, v = (if ∃ k, k < nE ∧ M 21 k = nI pk then nI 1 else nI 0) → f_X10_hasDay 0 (nI pk) N = some (v, N) := by
    intro v hv
    apply Res.eq
    unfold f_X10_hasDay
    simp (maxSteps := 1000000) (disch := omega) only [vv_e, mm_e, jn_e, bd_e, bd_i, e2_0_0, e2_0_1, e2_0_2, e2_0_4, e2_0_5, e2_0_6, e2_0_7, e2_0_8, e2_0_9, e2_0_10, e2_0_11, e2_0_12, e2_0_24, e2_0_25, e2_0_28, e2_0_29, e2_0_30, e2_0_34, e2_0_35, e2_0_36, e2_0_38, ld_i, st_i, la_i, sl_i, nI_add, pk_mul, pk_sub, ng_add, neg_neg_n, nlt, nle, neq, ng_lt, gn_lt, gg_lt, ng_le, gn_le, gg_le, ng_eq, gn_eq, gg_eq, dv_i, if_pos, if_neg, ite_tt, ite_ff, if_b2, if_b2n, l_0, l_1, l_2, l_3, l_4, l_5, l_6, l_7, l_8, l_9, l_10, l_11, l_12, l_13, l_16, l_20, l_24, l_30, l_32, l_33, l_38, l_42, l_43, l_45, l_47, l_48, l_50, l_57, l_60, l_61, l_62, l_96, l_97, l_99, l_100, l_102, l_105, l_110, l_121, l_122, l_124, l_128, l_200, l_255, l_270, l_350, l_360, l_400, l_440, l_490, l_500, l_999, l_1000, l_9999, l_10000, l_99999, l_100000, l_1000000, l_1000000001, l_1000000002, l_1000000003, l_1000000005, l_1000000011, l_1000000012, l_1000000013, l_1000000014, d2]
    refine lo2 (fun m x y N' => ∃ k, k + m = nE ∧ x = (if ∃ j, j < k ∧ M 21 j = nI pk then nI 1 else nI 0) ∧ y = nI k ∧ N' = N) ?_ fuel nE _ _ N (by show nE < 5000; omega) ⟨0, by omega, by rw [if_neg (fun ⟨j, q1, q2⟩ => absurd q1 (Nat.not_lt_zero j))], rfl, rfl⟩
    rintro m rc _ _ N' ⟨k, hk, rfl, rfl, hM⟩ ih
    rw [hM]
    by_cases hkn : k = nE
    · subst hkn
      simp (maxSteps := 1000000) (disch := omega) only [ld_i, st_i, la_i, sl_i, nI_add, pk_mul, pk_sub, ng_add, neg_neg_n, nlt, nle, neq, ng_lt, gn_lt, gg_lt, ng_le, gn_le, gg_le, ng_eq, gn_eq, gg_eq, dv_i, if_pos, if_neg, ite_tt, ite_ff, if_b2, if_b2n, l_0, l_1, l_2, l_3, l_4, l_5, l_6, l_7, l_8, l_9, l_10, l_11, l_12, l_13, l_16, l_20, l_24, l_30, l_32, l_33, l_38, l_42, l_43, l_45, l_47, l_48, l_50, l_57, l_60, l_61, l_62, l_96, l_97, l_99, l_100, l_102, l_105, l_110, l_121, l_122, l_124, l_128, l_200, l_255, l_270, l_350, l_360, l_400, l_440, l_490, l_500, l_999, l_1000, l_9999, l_10000, l_99999, l_100000, l_1000000, l_1000000001, l_1000000002, l_1000000003, l_1000000005, l_1000000011, l_1000000012, l_1000000013, l_1000000014, d2]
      by_cases hh : ∃ j, j < k ∧ M 21 j = nI pk
      · rw [if_pos hh] at hv ⊢
        rw [hv]
        unfold gb
        rw [if_pos (show nI 1 = 0 ∨ nI 1 = 1 from Or.inr rfl)]
        exact Res.mk ⟨rfl, rfl⟩
      · rw [if_neg hh] at hv ⊢
        rw [hv]
        unfold gb
        rw [if_pos (show nI 0 = 0 ∨ nI 0 = 1 from Or.inl rfl)]
        exact Res.mk ⟨rfl, rfl⟩
    have g1 := (d4 k (by omega)).1
    by_cases hh : ∃ j, j < k ∧ M 21 j = nI pk
    · rw [if_pos hh]
      obtain ⟨j, j1, j2⟩ := hh
      simp (maxSteps := 1000000) (disch := omega) only [vv_e, mm_e, jn_e, bd_e, bd_i, ld_i, st_i, la_i, sl_i, nI_add, pk_mul, pk_sub, ng_add, neg_neg_n, nlt, nle, neq, ng_lt, gn_lt, gg_lt, ng_le, gn_le, gg_le, ng_eq, gn_eq, gg_eq, dv_i, if_pos, if_neg, ite_tt, ite_ff, if_b2, if_b2n, l_0, l_1, l_2, l_3, l_4, l_5, l_6, l_7, l_8, l_9, l_10, l_11, l_12, l_13, l_16, l_20, l_24, l_30, l_32, l_33, l_38, l_42, l_43, l_45, l_47, l_48, l_50, l_57, l_60, l_61, l_62, l_96, l_97, l_99, l_100, l_102, l_105, l_110, l_121, l_122, l_124, l_128, l_200, l_255, l_270, l_350, l_360, l_400, l_440, l_490, l_500, l_999, l_1000, l_9999, l_10000, l_99999, l_100000, l_1000000, l_1000000001, l_1000000002, l_1000000003, l_1000000005, l_1000000011, l_1000000012, l_1000000013, l_1000000014, d2]
      exact ih (m - 1) _ _ _ (by omega) ⟨k + 1, by omega, by rw [if_pos ⟨j, by omega, j2⟩], rfl, rfl⟩
    · rw [if_neg hh]
      by_cases he : M 21 k = nI pk
      · simp (maxSteps := 1000000) (disch := omega) only [vv_e, mm_e, jn_e, bd_e, bd_i, ld_i, st_i, la_i, sl_i, nI_add, pk_mul, pk_sub, ng_add, neg_neg_n, nlt, nle, neq, ng_lt, gn_lt, gg_lt, ng_le, gn_le, gg_le, ng_eq, gn_eq, gg_eq, dv_i, if_pos, if_neg, ite_tt, ite_ff, if_b2, if_b2n, l_0, l_1, l_2, l_3, l_4, l_5, l_6, l_7, l_8, l_9, l_10, l_11, l_12, l_13, l_16, l_20, l_24, l_30, l_32, l_33, l_38, l_42, l_43, l_45, l_47, l_48, l_50, l_57, l_60, l_61, l_62, l_96, l_97, l_99, l_100, l_102, l_105, l_110, l_121, l_122, l_124, l_128, l_200, l_255, l_270, l_350, l_360, l_400, l_440, l_490, l_500, l_999, l_1000, l_9999, l_10000, l_99999, l_100000, l_1000000, l_1000000001, l_1000000002, l_1000000003, l_1000000005, l_1000000011, l_1000000012, l_1000000013, l_1000000014, d2, g1, he]
        exact ih (m - 1) _ _ _ (by omega) ⟨k + 1, by omega, by rw [if_pos ⟨k, by omega, he⟩], rfl, rfl⟩
      · simp (maxSteps := 1000000) (disch := omega) only [vv_e, mm_e, jn_e, bd_e, bd_i, ld_i, st_i, la_i, sl_i, nI_add, pk_mul, pk_sub, ng_add, neg_neg_n, nlt, nle, neq, ng_lt, gn_lt, gg_lt, ng_le, gn_le, gg_le, ng_eq, gn_eq, gg_eq, dv_i, if_pos, if_neg, ite_tt, ite_ff, if_b2, if_b2n, l_0, l_1, l_2, l_3, l_4, l_5, l_6, l_7, l_8, l_9, l_10, l_11, l_12, l_13, l_16, l_20, l_24, l_30, l_32, l_33, l_38, l_42, l_43, l_45, l_47, l_48, l_50, l_57, l_60, l_61, l_62, l_96, l_97, l_99, l_100, l_102, l_105, l_110, l_121, l_122, l_124, l_128, l_200, l_255, l_270, l_350, l_360, l_400, l_440, l_490, l_500, l_999, l_1000, l_9999, l_10000, l_99999, l_100000, l_1000000, l_1000000001, l_1000000002, l_1000000003, l_1000000005, l_1000000011, l_1000000012, l_1000000013, l_1000000014, d2, g1]
        refine ih (m - 1) _ _ _ (by omega) ⟨k + 1, by omega, ?_, rfl, rfl⟩
        rw [if_neg]
        rintro ⟨j, j1, j2⟩
        by_cases hj : j = k
        · rw [hj] at j2
          exact he j2
        · exact hh ⟨j, by omega, j2⟩
  have hwr : Res (fun r M' => ((∃ k, k < nE ∧ M 21 k = nI pk) ∧ r = -nI 1000000002 ∧ M' = M) ∨ (¬ (∃ k, k < nE ∧ M 21 k = nI pk) ∧ ((nE = 20 ∧ r = -nI 1000000003 ∧ M' = M) ∨ (nE < 20 ∧ r = nI (nE + 1) ∧ M' = up (up (up M 21 nE (nI pk)) 22 nE (nI qk)) 19 1 (nI (nE + 1)))))) (f_X2_write 19 (nI pk) (nI qk) M) := by
    unfold f_X2_write
    simp (maxSteps := 1000000) (disch := omega) only [vv_e, mm_e, jn_e, bd_e, bd_i, e1_0_0, e1_0_1, e1_0_3, e1_0_4, e1_0_6, e1_0_7, e1_1_0, e1_1_1, e1_1_2, e1_1_3, e1_1_4, e1_1_5, e1_1_9, e1_2_1, e1_2_3, e1_2_4, e1_2_5, e1_2_6, e1_2_7, e1_9_1, e1_9_2, e1_9_3, e1_9_4, e1_9_5, e1_9_6, e1_16_0, e1_16_1, e1_19_0, e1_19_2, e1_19_3, e1_19_4, e1_24_1, e1_24_2, e1_24_3, e1_24_5, e1_61_0, e1_61_6, ld_i, st_i, la_i, sl_i, nI_add, pk_mul, pk_sub, ng_add, neg_neg_n, nlt, nle, neq, ng_lt, gn_lt, gg_lt, ng_le, gn_le, gg_le, ng_eq, gn_eq, gg_eq, dv_i, if_pos, if_neg, ite_tt, ite_ff, if_b2, if_b2n, l_0, l_1, l_2, l_3, l_4, l_5, l_6, l_7, l_8, l_9, l_10, l_11, l_12, l_13, l_16, l_20, l_24, l_30, l_32, l_33, l_38, l_42, l_43, l_45, l_47, l_48, l_50, l_57, l_60, l_61, l_62, l_96, l_97, l_99, l_100, l_102, l_105, l_110, l_121, l_122, l_124, l_128, l_200, l_255, l_270, l_350, l_360, l_400, l_440, l_490, l_500, l_999, l_1000, l_9999, l_10000, l_99999, l_100000, l_1000000, l_1000000001, l_1000000002, l_1000000003, l_1000000005, l_1000000011, l_1000000012, l_1000000013, l_1000000014, d1]
    refine lo1 (fun m y M' => ∃ k, k + m = nE ∧ y = nI k ∧ M' = M ∧ ∀ j, j < k → M 21 j ≠ nI pk) ?_ fuel nE _ M (by show nE < 5000; omega) ⟨0, by omega, rfl, rfl, fun j hj => absurd hj (Nat.not_lt_zero j)⟩
    rintro m rc _ M' ⟨k, hk, rfl, hM, hno⟩ ih
    rw [hM]
    by_cases hkn : k = nE
    · subst hkn
      have hne : ¬ ∃ j, j < k ∧ M 21 j = nI pk := fun ⟨j, j1, j2⟩ => hno j j1 j2
      by_cases h20 : k = 20
      · simp (maxSteps := 1000000) (disch := omega) only [ld_i, st_i, la_i, sl_i, nI_add, pk_mul, pk_sub, ng_add, neg_neg_n, nlt, nle, neq, ng_lt, gn_lt, gg_lt, ng_le, gn_le, gg_le, ng_eq, gn_eq, gg_eq, dv_i, if_pos, if_neg, ite_tt, ite_ff, if_b2, if_b2n, l_0, l_1, l_2, l_3, l_4, l_5, l_6, l_7, l_8, l_9, l_10, l_11, l_12, l_13, l_16, l_20, l_24, l_30, l_32, l_33, l_38, l_42, l_43, l_45, l_47, l_48, l_50, l_57, l_60, l_61, l_62, l_96, l_97, l_99, l_100, l_102, l_105, l_110, l_121, l_122, l_124, l_128, l_200, l_255, l_270, l_350, l_360, l_400, l_440, l_490, l_500, l_999, l_1000, l_9999, l_10000, l_99999, l_100000, l_1000000, l_1000000001, l_1000000002, l_1000000003, l_1000000005, l_1000000011, l_1000000012, l_1000000013, l_1000000014, d1]
        exact Res.mk (Or.inr ⟨hne, Or.inl ⟨h20, rfl, rfl⟩⟩)
      · simp (maxSteps := 1000000) (disch := omega) only [vv_e, mm_e, jn_e, bd_e, bd_i, ld_i, st_i, la_i, sl_i, nI_add, pk_mul, pk_sub, ng_add, neg_neg_n, nlt, nle, neq, ng_lt, gn_lt, gg_lt, ng_le, gn_le, gg_le, ng_eq, gn_eq, gg_eq, dv_i, if_pos, if_neg, ite_tt, ite_ff, if_b2, if_b2n, l_0, l_1, l_2, l_3, l_4, l_5, l_6, l_7, l_8, l_9, l_10, l_11, l_12, l_13, l_16, l_20, l_24, l_30, l_32, l_33, l_38, l_42, l_43, l_45, l_47, l_48, l_50, l_57, l_60, l_61, l_62, l_96, l_97, l_99, l_100, l_102, l_105, l_110, l_121, l_122, l_124, l_128, l_200, l_255, l_270, l_350, l_360, l_400, l_440, l_490, l_500, l_999, l_1000, l_9999, l_10000, l_99999, l_100000, l_1000000, l_1000000001, l_1000000002, l_1000000003, l_1000000005, l_1000000011, l_1000000012, l_1000000013, l_1000000014, up_a, up_k, up_same, d1]
        exact Res.mk (Or.inr ⟨hne, Or.inr ⟨by omega, rfl, rfl⟩⟩)
    by_cases he : M 21 k = nI pk
    · simp (maxSteps := 1000000) (disch := omega) only [vv_e, mm_e, jn_e, bd_e, bd_i, ld_i, st_i, la_i, sl_i, nI_add, pk_mul, pk_sub, ng_add, neg_neg_n, nlt, nle, neq, ng_lt, gn_lt, gg_lt, ng_le, gn_le, gg_le, ng_eq, gn_eq, gg_eq, dv_i, if_pos, if_neg, ite_tt, ite_ff, if_b2, if_b2n, l_0, l_1, l_2, l_3, l_4, l_5, l_6, l_7, l_8, l_9, l_10, l_11, l_12, l_13, l_16, l_20, l_24, l_30, l_32, l_33, l_38, l_42, l_43, l_45, l_47, l_48, l_50, l_57, l_60, l_61, l_62, l_96, l_97, l_99, l_100, l_102, l_105, l_110, l_121, l_122, l_124, l_128, l_200, l_255, l_270, l_350, l_360, l_400, l_440, l_490, l_500, l_999, l_1000, l_9999, l_10000, l_99999, l_100000, l_1000000, l_1000000001, l_1000000002, l_1000000003, l_1000000005, l_1000000011, l_1000000012, l_1000000013, l_1000000014, d1, he]
      exact Res.mk (Or.inl ⟨⟨k, by omega, he⟩, rfl, rfl⟩)
    · simp (maxSteps := 1000000) (disch := omega) only [vv_e, mm_e, jn_e, bd_e, bd_i, ld_i, st_i, la_i, sl_i, nI_add, pk_mul, pk_sub, ng_add, neg_neg_n, nlt, nle, neq, ng_lt, gn_lt, gg_lt, ng_le, gn_le, gg_le, ng_eq, gn_eq, gg_eq, dv_i, if_pos, if_neg, ite_tt, ite_ff, if_b2, if_b2n, l_0, l_1, l_2, l_3, l_4, l_5, l_6, l_7, l_8, l_9, l_10, l_11, l_12, l_13, l_16, l_20, l_24, l_30, l_32, l_33, l_38, l_42, l_43, l_45, l_47, l_48, l_50, l_57, l_60, l_61, l_62, l_96, l_97, l_99, l_100, l_102, l_105, l_110, l_121, l_122, l_124, l_128, l_200, l_255, l_270, l_350, l_360, l_400, l_440, l_490, l_500, l_999, l_1000, l_9999, l_10000, l_99999, l_100000, l_1000000, l_1000000001, l_1000000002, l_1000000003, l_1000000005, l_1000000011, l_1000000012, l_1000000013, l_1000000014, d1]
      refine ih (m - 1) _ _ (by omega) ⟨k + 1, by omega, rfl, rfl, fun j hj => ?_⟩
      by_cases hjk : j = k
      · rw [hjk]; exact he
      · exact hno j (by omega)
  have hd := hday _ rfl
  obtain ⟨r, M', e1, hw⟩ := hwr
  rcases hw with ⟨hh, rfl, rfl⟩ | ⟨hh, ⟨h20, rfl, rfl⟩ | ⟨h20, rfl, rfl⟩⟩
  · rw [if_pos hh] at hd
    simp (maxSteps := 1000000) (disch := omega) only [vv_e, mm_e, jn_e, bd_e, bd_i, ld_i, st_i, la_i, sl_i, nI_add, pk_mul, pk_sub, ng_add, neg_neg_n, nlt, nle, neq, ng_lt, gn_lt, gg_lt, ng_le, gn_le, gg_le, ng_eq, gn_eq, gg_eq, dv_i, if_pos, if_neg, ite_tt, ite_ff, if_b2, if_b2n, l_0, l_1, l_2, l_3, l_4, l_5, l_6, l_7, l_8, l_9, l_10, l_11, l_12, l_13, l_16, l_20, l_24, l_30, l_32, l_33, l_38, l_42, l_43, l_45, l_47, l_48, l_50, l_57, l_60, l_61, l_62, l_96, l_97, l_99, l_100, l_102, l_105, l_110, l_121, l_122, l_124, l_128, l_200, l_255, l_270, l_350, l_360, l_400, l_440, l_490, l_500, l_999, l_1000, l_9999, l_10000, l_99999, l_100000, l_1000000, l_1000000001, l_1000000002, l_1000000003, l_1000000005, l_1000000011, l_1000000012, l_1000000013, l_1000000014, e1, hd]
    exact Same.mk h
  · rw [if_neg hh] at hd
    simp (maxSteps := 1000000) (disch := omega) only [vv_e, mm_e, jn_e, bd_e, bd_i, ld_i, st_i, la_i, sl_i, nI_add, pk_mul, pk_sub, ng_add, neg_neg_n, nlt, nle, neq, ng_lt, gn_lt, gg_lt, ng_le, gn_le, gg_le, ng_eq, gn_eq, gg_eq, dv_i, if_pos, if_neg, ite_tt, ite_ff, if_b2, if_b2n, l_0, l_1, l_2, l_3, l_4, l_5, l_6, l_7, l_8, l_9, l_10, l_11, l_12, l_13, l_16, l_20, l_24, l_30, l_32, l_33, l_38, l_42, l_43, l_45, l_47, l_48, l_50, l_57, l_60, l_61, l_62, l_96, l_97, l_99, l_100, l_102, l_105, l_110, l_121, l_122, l_124, l_128, l_200, l_255, l_270, l_350, l_360, l_400, l_440, l_490, l_500, l_999, l_1000, l_9999, l_10000, l_99999, l_100000, l_1000000, l_1000000001, l_1000000002, l_1000000003, l_1000000005, l_1000000011, l_1000000012, l_1000000013, l_1000000014, e1, hd, d2]
    exact Same.mk h
  · rw [if_neg hh] at hd
    simp (maxSteps := 1000000) (disch := omega) only [vv_e, mm_e, jn_e, bd_e, bd_i, ld_i, st_i, la_i, sl_i, nI_add, pk_mul, pk_sub, ng_add, neg_neg_n, nlt, nle, neq, ng_lt, gn_lt, gg_lt, ng_le, gn_le, gg_le, ng_eq, gn_eq, gg_eq, dv_i, if_pos, if_neg, ite_tt, ite_ff, if_b2, if_b2n, l_0, l_1, l_2, l_3, l_4, l_5, l_6, l_7, l_8, l_9, l_10, l_11, l_12, l_13, l_16, l_20, l_24, l_30, l_32, l_33, l_38, l_42, l_43, l_45, l_47, l_48, l_50, l_57, l_60, l_61, l_62, l_96, l_97, l_99, l_100, l_102, l_105, l_110, l_121, l_122, l_124, l_128, l_200, l_255, l_270, l_350, l_360, l_400, l_440, l_490, l_500, l_999, l_1000, l_9999, l_10000, l_99999, l_100000, l_1000000, l_1000000001, l_1000000002, l_1000000003, l_1000000005, l_1000000011, l_1000000012, l_1000000013, l_1000000014, up_a, up_k, up_same, e1, hd, d2]
    have e : ∀ j, j ≠ 4 → j ≠ 400 + 2 * nE → j ≠ 400 + 2 * nE + 1 → up (up (up N 1 (400 + 2 * nE) (nI pk)) 1 (400 + 2 * nE + 1) (nI qk)) 1 4 (nI (nE + 1)) 1 j = N 1 j := fun j h1 h2 h3 => by rw [up_k _ _ _ _ _ h1, up_k _ _ _ _ _ h3, up_k _ _ _ _ _ h2]
    refine Same.mk (inv_now h (fun a ha => by rw [up_ne (by omega), up_ne (by omega), up_ne (by omega)]) rfl rfl rfl (fun a ha => by rw [up_ne (by omega), up_ne (by omega), up_ne (by omega)]) ⟨nT, nF, nX, nC, nE + 1, nL, nS, hT.cg (fun j hj => e j (by omega) (by omega) (by omega)), hF.cg (fun j hj => e j (by omega) (by omega) (by omega)), hX.cg (fun j hj => e j (by omega) (by omega) (by omega)), hL.cg hF.2.2.1 (fun j hj => e j (by omega) (by omega) (by omega)), hC.cg (fun j hj => e j (by omega) (by omega) (by omega)), hR.cg (fun j hj => e j (by omega) (by omega) (by omega)), ?_, hN.cg (fun j hj => e j (by omega) (by omega) (by omega)), hO.cg (fun j hj => e j (by omega) (by omega) (by omega)), hZ.cg (fun j hj => e j (by omega) (by omega) (by omega))⟩)
    refine ⟨up_same _ _ _ _, up_same _ _ _ _, by omega, fun k hk => ?_⟩
    simp only [Nat.reduceAdd]
    by_cases hkn : k = nE
    · subst hkn
      simp (maxSteps := 1000000) (disch := omega) only [up_a, up_k, up_same, show 401 + 2 * k = 400 + 2 * k + 1 by omega]
      exact ⟨trivial, trivial, ⟨pk, by omega, rfl⟩, ⟨qk, by omega, rfl⟩⟩
    · simp (maxSteps := 1000000) (disch := omega) only [up_a, up_k, up_same]
      exact d4 k (by omega)
