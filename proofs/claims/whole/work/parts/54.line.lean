theorem RLn.add {nF l k f : Nat} {len fg tb g len' fg' g' : Nat → Int32} (h : RLn nF len fg tb g) (hF : nF ≤ 40) (hl : l < 6) (hk : k < 12) (e : len l = nI k) (hf : f < nF) (hg : g (35 + 6 * f) = -1) (ho : k = 0 ∨ ∃ f2, f2 < nF ∧ fg (12 * l + (k - 1)) = nI f2 ∧ tb f2 < tb f)
    (l1 : len' l = nI (k + 1)) (l2 : ∀ j, j ≠ l → len' j = len j) (g1 : fg' (12 * l + k) = nI f) (g2 : ∀ j, j ≠ 12 * l + k → fg' j = fg j)
    (r1 : g' (270 + 13 * l) = nI (k + 1)) (r2 : g' (271 + 13 * l + k) = nI f) (r3 : g' (35 + 6 * f) = nI l) (r4 : ∀ j, j ≠ 270 + 13 * l → j ≠ 271 + 13 * l + k → j ≠ 35 + 6 * f → g' j = g j) : RLn nF len' fg' tb g' := by
  obtain ⟨h1, h2⟩ := h
  refine ⟨fun l' hl' => ?_, fun f' hf' => ?_⟩
  · obtain ⟨k', b1, b2, b3, b4, b5⟩ := h1 l' hl'
    by_cases hll : l' = l
    · subst hll
      have hkk : k' = k := (nI_eq (by omega) (by omega)).mp (b2.symm.trans e)
      subst hkk
      refine ⟨k' + 1, by omega, l1, r1, fun i hi => ?_, fun i hi f1 f2 q1 q2 q3 q4 => ?_⟩
      · by_cases hik : i = k'
        · subst hik
          exact ⟨f, hf, g1, r2, r3⟩
        · obtain ⟨f', c1, c2, c3, c4⟩ := b4 i (by omega)
          refine ⟨f', c1, by rw [g2 _ (by omega)]; exact c2, by rw [r4 _ (by omega) (by omega) (by omega)]; exact c3, ?_⟩
          have : f' ≠ f := fun q => by
            subst q
            rw [c4] at hg
            rw [show (-1 : Int32) = -nI 1 from rfl, ng_eq (by omega) (by omega)] at hg
            omega
          rw [r4 _ (by omega) (by omega) (by omega)]
          exact c4
      · rw [g2 _ (by omega)] at q1
        by_cases hik : i + 1 = k'
        · rw [hik, g1] at q2
          have : f = f2 := (nI_eq (by omega) (by omega)).mp q2
          subst this
          rcases ho with ho | ⟨f3, o1, o2, o3⟩
          · omega
          · rw [show k' - 1 = i by omega] at o2
            have : f3 = f1 := (nI_eq (by omega) (by omega)).mp (o2.symm.trans q1)
            subst this
            exact o3
        · rw [g2 _ (by omega)] at q2
          exact b5 i (by omega) f1 f2 q1 q2 q3 q4
    · refine ⟨k', b1, by rw [l2 _ hll]; exact b2, by rw [r4 _ (by omega) (by omega) (by omega)]; exact b3, fun i hi => ?_, fun i hi f1 f2 q1 q2 q3 q4 => ?_⟩
      · obtain ⟨f', c1, c2, c3, c4⟩ := b4 i hi
        refine ⟨f', c1, by rw [g2 _ (by omega)]; exact c2, by rw [r4 _ (by omega) (by omega) (by omega)]; exact c3, ?_⟩
        have : f' ≠ f := fun q => by
          subst q
          rw [c4] at hg
          rw [show (-1 : Int32) = -nI 1 from rfl, ng_eq (by omega) (by omega)] at hg
          omega
        rw [r4 _ (by omega) (by omega) (by omega)]
        exact c4
      · rw [g2 _ (by omega)] at q1 q2
        exact b5 i hi f1 f2 q1 q2 q3 q4
  · by_cases hff : f' = f
    · subst hff
      exact Or.inr ⟨l, k, hl, hk, by rw [l1]; exact nI_lt (by omega) (by omega), g1, r3⟩
    · rcases h2 f' hf' with ⟨c1, c2⟩ | ⟨l3, i, c1, c2, c3, c4, c5⟩
      · refine Or.inl ⟨by rw [r4 _ (by omega) (by omega) (by omega)]; exact c1, fun l3 i d1 d2 d3 => ?_⟩
        by_cases hll : l3 = l
        · subst hll
          rw [l1, nlt (by omega) (by omega)] at d2
          by_cases hik : i = k
          · subst hik
            rw [g1]
            exact fun q => hff ((nI_eq (by omega) (by omega)).mp q).symm
          · rw [g2 _ (by omega)]
            exact c2 l3 i d1 (by rw [e]; exact nI_lt (by omega) (by omega)) d3
        · rw [l2 _ hll] at d2
          rw [g2 _ (by omega)]
          exact c2 l3 i d1 d2 d3
      · refine Or.inr ⟨l3, i, c1, c2, ?_, ?_, by rw [r4 _ (by omega) (by omega) (by omega)]; exact c5⟩
        · by_cases hll : l3 = l
          · subst hll
            rw [e, nlt (by omega) (by omega)] at c3
            rw [l1]
            exact nI_lt (by omega) (by omega)
          · rw [l2 _ hll]
            exact c3
        · rw [g2 _ (fun q => ?_)]
          · exact c4
          · by_cases hll : l3 = l
            · subst hll
              rw [e, nlt (by omega) (by omega)] at c3
              omega
            · omega
theorem op_line : ∀ (p q : Int32) (M N : Mem), Inv M N → Same (f_X9_line 0 p q M) (f_X10_line 0 p q N) := by
  intro p q M N h
  obtain ⟨nT, nF, nX, nC, nE, nL, nS, hS, hT, hF, hX, hL, hC, hR, hD, hN, hO, hZ⟩ := h.st
  have t3 : nT ≤ 12 := hT.2.2.1
  obtain ⟨f1, f2, f3, f4⟩ := id hF
  unfold f_X9_line f_X10_line f_X10_figureAt f_X10_lineAt
  simp only [vv_e, mm_e, jn_e, bd_e, bd_i, e1_0_0, e1_0_1, e1_0_3, e1_0_4, e1_0_6, e1_0_7, e1_1_0, e1_1_1, e1_1_2, e1_1_3, e1_1_4, e1_1_5, e1_1_9, e1_2_1, e1_2_3, e1_2_4, e1_2_5, e1_2_6, e1_2_7, e1_9_1, e1_9_2, e1_9_3, e1_9_4, e1_9_5, e1_9_6, e1_16_0, e1_16_1, e1_19_0, e1_19_2, e1_19_3, e1_19_4, e1_24_1, e1_24_2, e1_24_3, e1_24_5, e1_61_0, e1_61_6, e2_0_0, e2_0_1, e2_0_2, e2_0_4, e2_0_5, e2_0_6, e2_0_7, e2_0_8, e2_0_9, e2_0_10, e2_0_11, e2_0_12, e2_0_24, e2_0_25, e2_0_28, e2_0_29, e2_0_30, e2_0_34, e2_0_35, e2_0_36, e2_0_38, s_within, s_isInL p 0 5 0 5 N rfl rfl, if_b2]
  by_cases hp : 0 ≤ p ∧ p ≤ 5
  case neg =>
    rw [if_neg hp, if_neg hp]
    exact Same.mk h
  rw [if_pos hp, if_pos hp]
  obtain ⟨l, hl, rfl⟩ := rgN (c := 5) (by decide) hp
  by_cases hq : Rg q nF
  case neg =>
    simp only [vv_e, mm_e, jn_e, bd_e, bd_i, has_f f1 hq (by omega), fig_f f2 hq (by omega)]
    rw [if_pos (show nI 0 = 0 from rfl), if_pos (show nI 0 = 0 from rfl)]
    exact Same.mk h
  obtain ⟨f, hf, rfl⟩ := hq
  simp only [vv_e, mm_e, jn_e, bd_e, bd_i, has_t f1 hf (by omega), fig_t f2 hf (by omega)]
  rw [if_neg (show ¬ nI 1 = 0 by decide), if_neg (show ¬ nI 1 = 0 by decide)]
  obtain ⟨t, kk, v, pp, q1, q2, q3, q4, q5, a1, a2, a3, a4, c1, c2, c3, c4, c5, c6⟩ := hF.fig hf
  obtain ⟨k, b1, b2', b3, b4, b5⟩ := hL.1 l (by omega)
  have xl := x_lastOf 16 l k M (by omega) b2' b1
  have xn := x_length 16 l k M (by omega) b2'
  simp only [e1_0_0, e1_0_1, e1_0_3, e1_0_4, e1_0_6, e1_0_7, e1_1_0, e1_1_1, e1_1_2, e1_1_3, e1_1_4, e1_1_5, e1_1_9, e1_2_1, e1_2_3, e1_2_4, e1_2_5, e1_2_6, e1_2_7, e1_9_1, e1_9_2, e1_9_3, e1_9_4, e1_9_5, e1_9_6, e1_16_0, e1_16_1, e1_19_0, e1_19_2, e1_19_3, e1_19_4, e1_24_1, e1_24_2, e1_24_3, e1_24_5, e1_61_0, e1_61_6] at xl
  have hadd : k < 12 → N 1 (30 + 6 * f + 5) = -nI 1 → (k = 0 ∨ ∃ f2, f2 < nF ∧ M 18 (12 * l + (k - 1)) = nI f2 ∧ M 4 f2 < M 4 f) → Inv (up (up M 18 (l * 12 + k) (nI f)) 17 l (nI (k + 1))) (up (up (up N 1 (270 + 13 * l) (nI (k + 1))) 1 (270 + 13 * l + (k + 1)) (nI f)) 1 (30 + 6 * f + 5) (nI l)) := by
    intro hk hu ho
    have e : ∀ j, j ≠ 270 + 13 * l → j ≠ 270 + 13 * l + (k + 1) → j ≠ 30 + 6 * f + 5 → up (up (up N 1 (270 + 13 * l) (nI (k + 1))) 1 (270 + 13 * l + (k + 1)) (nI f)) 1 (30 + 6 * f + 5) (nI l) 1 j = N 1 j := fun j h1 h2 h3 => by rw [up_k _ _ _ _ _ h3, up_k _ _ _ _ _ h2, up_k _ _ _ _ _ h1]
    refine inv_now h (fun a ha => by rw [up_ne (by omega), up_ne (by omega)]) rfl rfl rfl (fun a ha => by rw [up_ne (by omega), up_ne (by omega), up_ne (by omega)]) ⟨nT, nF, nX, nC, nE, nL, nS, hT.cg (fun j hj => e j (by omega) (by omega) (by omega)), hF.cg (fun j hj => e j (by omega) (by omega) (by omega)), hX.cg (fun j hj => e j (by omega) (by omega) (by omega)), ?_, hC.cg (fun j hj => e j (by omega) (by omega) (by omega)), hR.cg (fun j hj => e j (by omega) (by omega) (by omega)), hD.cg (fun j hj => e j (by omega) (by omega) (by omega)), hN.cg (fun j hj => e j (by omega) (by omega) (by omega)), hO.cg (fun j hj => e j (by omega) (by omega) (by omega)), hZ.cg (fun j hj => e j (by omega) (by omega) (by omega))⟩
    refine RLn.add (l := l) (k := k) (f := f) hL f3 (by omega) hk b2' hf (by rw [show 35 + 6 * f = 30 + 6 * f + 5 by omega]; exact hu) ho ?_ ?_ ?_ ?_ ?_ ?_ ?_ ?_
    · exact up_same _ _ _ _
    · exact fun j hj => by rw [show 1 + 16 = 17 from rfl, up_k _ _ _ _ _ hj, up_a _ _ _ _ _ _ (by decide)]
    · rw [show 1 + 17 = 18 from rfl, up_a _ _ _ _ _ _ (by decide), show 12 * l + k = l * 12 + k by omega, up_same]
    · exact fun j hj => by rw [show 1 + 17 = 18 from rfl, up_a _ _ _ _ _ _ (by decide), up_k _ _ _ _ _ (by omega)]
    · rw [up_k _ _ _ _ _ (by omega), up_k _ _ _ _ _ (by omega), up_same]
    · rw [up_k _ _ _ _ _ (by omega), show 271 + 13 * l + k = 270 + 13 * l + (k + 1) by omega, up_same]
    · rw [show 35 + 6 * f = 30 + 6 * f + 5 by omega, up_same]
    · exact fun j h1 h2 h3 => e j (by omega) (by omega) (by omega)
  obtain ⟨r, e1, ⟨rfl, e2⟩ | ⟨l', hl', rfl, e2⟩⟩ := holder_eq (b := 1) (Or.inl rfl) hS hf
  case inr =>
    simp only [Nat.reduceAdd] at e1
    cases k with
    | zero =>
      simp (maxSteps := 1000000) (disch := omega) only [vv_e, mm_e, jn_e, bd_e, bd_i, ld_i, st_i, la_i, sl_i, nI_add, pk_mul, pk_sub, ng_add, neg_neg_n, nlt, nle, neq, ng_lt, gn_lt, gg_lt, ng_le, gn_le, gg_le, ng_eq, gn_eq, gg_eq, dv_i, if_pos, if_neg, ite_tt, ite_ff, if_b2, if_b2n, l_0, l_1, l_2, l_3, l_4, l_5, l_6, l_7, l_8, l_9, l_10, l_11, l_12, l_13, l_16, l_20, l_24, l_30, l_32, l_33, l_38, l_42, l_43, l_45, l_47, l_48, l_50, l_57, l_60, l_61, l_62, l_96, l_97, l_99, l_100, l_102, l_105, l_110, l_121, l_122, l_124, l_128, l_200, l_255, l_270, l_350, l_360, l_400, l_440, l_490, l_500, l_999, l_1000, l_9999, l_10000, l_99999, l_100000, l_1000000, l_1000000001, l_1000000002, l_1000000003, l_1000000005, l_1000000011, l_1000000012, l_1000000013, l_1000000014, up_a, up_k, up_same, e1, e2, b3]
      exact Same.mk h
    | succ k =>
      obtain ⟨f2', g1, g2, g3, g4⟩ := b4 k (by omega)
      rw [show 271 + 13 * l + k = 270 + 13 * l + (k + 1) by omega] at g3
      obtain ⟨t2, kk2, v2, pp2, w1, w2, w3, w4, w5, d1, d2, d3, d4, d5, d6, d7, d8, d9, d10⟩ := hF.fig g1
      simp (maxSteps := 1000000) (disch := omega) only [vv_e, mm_e, jn_e, bd_e, bd_i, ld_i, st_i, la_i, sl_i, nI_add, pk_mul, pk_sub, ng_add, neg_neg_n, nlt, nle, neq, ng_lt, gn_lt, gg_lt, ng_le, gn_le, gg_le, ng_eq, gn_eq, gg_eq, dv_i, if_pos, if_neg, ite_tt, ite_ff, if_b2, if_b2n, l_0, l_1, l_2, l_3, l_4, l_5, l_6, l_7, l_8, l_9, l_10, l_11, l_12, l_13, l_16, l_20, l_24, l_30, l_32, l_33, l_38, l_42, l_43, l_45, l_47, l_48, l_50, l_57, l_60, l_61, l_62, l_96, l_97, l_99, l_100, l_102, l_105, l_110, l_121, l_122, l_124, l_128, l_200, l_255, l_270, l_350, l_360, l_400, l_440, l_490, l_500, l_999, l_1000, l_9999, l_10000, l_99999, l_100000, l_1000000, l_1000000001, l_1000000002, l_1000000003, l_1000000005, l_1000000011, l_1000000012, l_1000000013, l_1000000014, up_a, up_k, up_same, e1, e2, b3, g3, c1, d5, ite_self]
      exact Same.mk h
  simp only [Nat.reduceAdd] at e1
  unfold f_X3_append
  cases k with
  | zero =>
    have hk0 : f_X0_has 2 (-nI 1000000005) M = some (nI 0, M) := by
      rw [s_has, f1]
      simp (maxSteps := 1000000) (disch := omega) only [ld_i, st_i, la_i, sl_i, nI_add, pk_mul, pk_sub, ng_add, neg_neg_n, nlt, nle, neq, ng_lt, gn_lt, gg_lt, ng_le, gn_le, gg_le, ng_eq, gn_eq, gg_eq, dv_i, if_pos, if_neg, ite_tt, ite_ff, if_b2, if_b2n, l_0, l_1, l_2, l_3, l_4, l_5, l_6, l_7, l_8, l_9, l_10, l_11, l_12, l_13, l_16, l_20, l_24, l_30, l_32, l_33, l_38, l_42, l_43, l_45, l_47, l_48, l_50, l_57, l_60, l_61, l_62, l_96, l_97, l_99, l_100, l_102, l_105, l_110, l_121, l_122, l_124, l_128, l_200, l_255, l_270, l_350, l_360, l_400, l_440, l_490, l_500, l_999, l_1000, l_9999, l_10000, l_99999, l_100000, l_1000000, l_1000000001, l_1000000002, l_1000000003, l_1000000005, l_1000000011, l_1000000012, l_1000000013, l_1000000014]
      rw [b2_f (by omega)]
    rw [if_pos rfl] at xl
    simp (maxSteps := 1000000) (disch := omega) only [vv_e, mm_e, jn_e, bd_e, bd_i, e1_0_0, e1_0_1, e1_0_3, e1_0_4, e1_0_6, e1_0_7, e1_1_0, e1_1_1, e1_1_2, e1_1_3, e1_1_4, e1_1_5, e1_1_9, e1_2_1, e1_2_3, e1_2_4, e1_2_5, e1_2_6, e1_2_7, e1_9_1, e1_9_2, e1_9_3, e1_9_4, e1_9_5, e1_9_6, e1_16_0, e1_16_1, e1_19_0, e1_19_2, e1_19_3, e1_19_4, e1_24_1, e1_24_2, e1_24_3, e1_24_5, e1_61_0, e1_61_6, ld_i, st_i, la_i, sl_i, nI_add, pk_mul, pk_sub, ng_add, neg_neg_n, nlt, nle, neq, ng_lt, gn_lt, gg_lt, ng_le, gn_le, gg_le, ng_eq, gn_eq, gg_eq, dv_i, if_pos, if_neg, ite_tt, ite_ff, if_b2, if_b2n, l_0, l_1, l_2, l_3, l_4, l_5, l_6, l_7, l_8, l_9, l_10, l_11, l_12, l_13, l_16, l_20, l_24, l_30, l_32, l_33, l_38, l_42, l_43, l_45, l_47, l_48, l_50, l_57, l_60, l_61, l_62, l_96, l_97, l_99, l_100, l_102, l_105, l_110, l_121, l_122, l_124, l_128, l_200, l_255, l_270, l_350, l_360, l_400, l_440, l_490, l_500, l_999, l_1000, l_9999, l_10000, l_99999, l_100000, l_1000000, l_1000000001, l_1000000002, l_1000000003, l_1000000005, l_1000000011, l_1000000012, l_1000000013, l_1000000014, up_a, up_k, up_same, e1, e2, b3, xl, xn, hk0, b2']
    exact Same.mk (hadd (by omega) e2 (Or.inl rfl))
  | succ k =>
    obtain ⟨f2', g1, g2, g3, g4⟩ := b4 k (by omega)
    rw [show 271 + 13 * l + k = 270 + 13 * l + (k + 1) by omega] at g3
    obtain ⟨t2, kk2, v2, pp2, w1, w2, w3, w4, w5, d1, d2, d3, d4, d5, d6, d7, d8, d9, d10⟩ := hF.fig g1
    rw [if_neg (by omega), show k + 1 - 1 = k by omega, g2] at xl
    by_cases htt : t2 < t
    · by_cases hk12 : k + 1 = 12
      · simp (maxSteps := 1000000) (disch := omega) only [vv_e, mm_e, jn_e, bd_e, bd_i, e1_0_0, e1_0_1, e1_0_3, e1_0_4, e1_0_6, e1_0_7, e1_1_0, e1_1_1, e1_1_2, e1_1_3, e1_1_4, e1_1_5, e1_1_9, e1_2_1, e1_2_3, e1_2_4, e1_2_5, e1_2_6, e1_2_7, e1_9_1, e1_9_2, e1_9_3, e1_9_4, e1_9_5, e1_9_6, e1_16_0, e1_16_1, e1_19_0, e1_19_2, e1_19_3, e1_19_4, e1_24_1, e1_24_2, e1_24_3, e1_24_5, e1_61_0, e1_61_6, ld_i, st_i, la_i, sl_i, nI_add, pk_mul, pk_sub, ng_add, neg_neg_n, nlt, nle, neq, ng_lt, gn_lt, gg_lt, ng_le, gn_le, gg_le, ng_eq, gn_eq, gg_eq, dv_i, if_pos, if_neg, ite_tt, ite_ff, if_b2, if_b2n, l_0, l_1, l_2, l_3, l_4, l_5, l_6, l_7, l_8, l_9, l_10, l_11, l_12, l_13, l_16, l_20, l_24, l_30, l_32, l_33, l_38, l_42, l_43, l_45, l_47, l_48, l_50, l_57, l_60, l_61, l_62, l_96, l_97, l_99, l_100, l_102, l_105, l_110, l_121, l_122, l_124, l_128, l_200, l_255, l_270, l_350, l_360, l_400, l_440, l_490, l_500, l_999, l_1000, l_9999, l_10000, l_99999, l_100000, l_1000000, l_1000000001, l_1000000002, l_1000000003, l_1000000005, l_1000000011, l_1000000012, l_1000000013, l_1000000014, up_a, up_k, up_same, e1, e2, b3, xl, xn, has_t f1 g1 (by omega), a1, d1, g3, c1, d5]
        exact Same.mk h
      · simp (maxSteps := 1000000) (disch := omega) only [vv_e, mm_e, jn_e, bd_e, bd_i, e1_0_0, e1_0_1, e1_0_3, e1_0_4, e1_0_6, e1_0_7, e1_1_0, e1_1_1, e1_1_2, e1_1_3, e1_1_4, e1_1_5, e1_1_9, e1_2_1, e1_2_3, e1_2_4, e1_2_5, e1_2_6, e1_2_7, e1_9_1, e1_9_2, e1_9_3, e1_9_4, e1_9_5, e1_9_6, e1_16_0, e1_16_1, e1_19_0, e1_19_2, e1_19_3, e1_19_4, e1_24_1, e1_24_2, e1_24_3, e1_24_5, e1_61_0, e1_61_6, ld_i, st_i, la_i, sl_i, nI_add, pk_mul, pk_sub, ng_add, neg_neg_n, nlt, nle, neq, ng_lt, gn_lt, gg_lt, ng_le, gn_le, gg_le, ng_eq, gn_eq, gg_eq, dv_i, if_pos, if_neg, ite_tt, ite_ff, if_b2, if_b2n, l_0, l_1, l_2, l_3, l_4, l_5, l_6, l_7, l_8, l_9, l_10, l_11, l_12, l_13, l_16, l_20, l_24, l_30, l_32, l_33, l_38, l_42, l_43, l_45, l_47, l_48, l_50, l_57, l_60, l_61, l_62, l_96, l_97, l_99, l_100, l_102, l_105, l_110, l_121, l_122, l_124, l_128, l_200, l_255, l_270, l_350, l_360, l_400, l_440, l_490, l_500, l_999, l_1000, l_9999, l_10000, l_99999, l_100000, l_1000000, l_1000000001, l_1000000002, l_1000000003, l_1000000005, l_1000000011, l_1000000012, l_1000000013, l_1000000014, up_a, up_k, up_same, e1, e2, b3, xl, xn, has_t f1 g1 (by omega), a1, d1, g3, c1, d5, b2']
        refine Same.mk (hadd (by omega) e2 (Or.inr ⟨f2', g1, g2, ?_⟩))
        rw [a1, d1]
        exact nI_lt htt (by omega)
    · simp (maxSteps := 1000000) (disch := omega) only [vv_e, mm_e, jn_e, bd_e, bd_i, e1_0_0, e1_0_1, e1_0_3, e1_0_4, e1_0_6, e1_0_7, e1_1_0, e1_1_1, e1_1_2, e1_1_3, e1_1_4, e1_1_5, e1_1_9, e1_2_1, e1_2_3, e1_2_4, e1_2_5, e1_2_6, e1_2_7, e1_9_1, e1_9_2, e1_9_3, e1_9_4, e1_9_5, e1_9_6, e1_16_0, e1_16_1, e1_19_0, e1_19_2, e1_19_3, e1_19_4, e1_24_1, e1_24_2, e1_24_3, e1_24_5, e1_61_0, e1_61_6, ld_i, st_i, la_i, sl_i, nI_add, pk_mul, pk_sub, ng_add, neg_neg_n, nlt, nle, neq, ng_lt, gn_lt, gg_lt, ng_le, gn_le, gg_le, ng_eq, gn_eq, gg_eq, dv_i, if_pos, if_neg, ite_tt, ite_ff, if_b2, if_b2n, l_0, l_1, l_2, l_3, l_4, l_5, l_6, l_7, l_8, l_9, l_10, l_11, l_12, l_13, l_16, l_20, l_24, l_30, l_32, l_33, l_38, l_42, l_43, l_45, l_47, l_48, l_50, l_57, l_60, l_61, l_62, l_96, l_97, l_99, l_100, l_102, l_105, l_110, l_121, l_122, l_124, l_128, l_200, l_255, l_270, l_350, l_360, l_400, l_440, l_490, l_500, l_999, l_1000, l_9999, l_10000, l_99999, l_100000, l_1000000, l_1000000001, l_1000000002, l_1000000003, l_1000000005, l_1000000011, l_1000000012, l_1000000013, l_1000000014, up_a, up_k, up_same, e1, e2, b3, xl, xn, has_t f1 g1 (by omega), a1, d1, g3, c1, d5]
      exact Same.mk h
