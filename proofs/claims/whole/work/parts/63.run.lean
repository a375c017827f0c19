theorem pk_sub1 (a : Nat) : nI (a + 1) - nI 1 = nI a := nI_pred a
theorem x_at' (l k i : Nat) (M : Mem) (hl : l < 6) (e : M 17 l = nI k) (hk : k ≤ 12) (hi : i < k) : f_X3_at 16 (nI l) (nI i) M = some (M 18 (12 * l + i), M) := x_at 16 l k i M hl e hk hi
theorem x_at_n (l : Nat) (M : Mem) : f_X3_at 16 (nI l) (-nI 1) M = some (-nI 1000000005, M) := by
  unfold f_X3_at
  simp (maxSteps := 1000000) (disch := omega) only [ld_i, st_i, la_i, sl_i, nI_add, pk_mul, pk_sub, ng_add, neg_neg_n, nlt, nle, neq, ng_lt, gn_lt, gg_lt, ng_le, gn_le, gg_le, ng_eq, gn_eq, gg_eq, dv_i, if_pos, if_neg, ite_tt, ite_ff, if_b2, if_b2n, l_0, l_1, l_2, l_3, l_4, l_5, l_6, l_7, l_8, l_9, l_10, l_11, l_12, l_13, l_16, l_20, l_24, l_30, l_32, l_33, l_38, l_42, l_43, l_45, l_47, l_48, l_50, l_57, l_60, l_61, l_62, l_96, l_97, l_99, l_100, l_102, l_105, l_110, l_121, l_122, l_124, l_128, l_200, l_255, l_270, l_350, l_360, l_400, l_440, l_490, l_500, l_999, l_1000, l_9999, l_10000, l_99999, l_100000, l_1000000, l_1000000001, l_1000000002, l_1000000003, l_1000000005, l_1000000011, l_1000000012, l_1000000013, l_1000000014]
section
variable {nT nF nX nC nE nL nS : Nat} {M N : Mem}
theorem line_facts (h : RS nT nF nX nC nE nL nS M 1 (N 1)) {l : Nat} (hl : l < 6) : ∃ (k : Nat) (F V T : Nat → Nat), k ≤ 12 ∧ M 17 l = nI k ∧ N 1 (270 + 13 * l) = nI k ∧ (∀ i, i < k → F i < nF ∧ V i < 10000 ∧ T i < nT ∧ M 18 (12 * l + i) = nI (F i) ∧ N 1 (270 + 13 * l + (i + 1)) = nI (F i) ∧ M 6 (F i) = nI (V i) ∧ N 1 (30 + 6 * F i + 2) = nI (V i) ∧ M 4 (F i) = nI (T i) ∧ N 1 (30 + 6 * F i) = nI (T i)) ∧ ∀ i, i + 1 < k → T i < T (i + 1) := by
  obtain ⟨hT, hF, hX, hL, -⟩ := id h
  have t3 : nT ≤ 12 := hT.2.2.1
  have f3 : nF ≤ 40 := hF.2.2.1
  obtain ⟨k, b1, b2', b3, b4, b5⟩ := hL.1 l hl
  have hf : ∀ i, ∃ f, i < k → f < nF ∧ M 18 (12 * l + i) = nI f ∧ N 1 (270 + 13 * l + (i + 1)) = nI f := fun i => by
    by_cases hi : i < k
    · obtain ⟨f, c1, c2, c3, c4⟩ := b4 i hi
      exact ⟨f, fun _ => ⟨c1, c2, by rw [show 270 + 13 * l + (i + 1) = 271 + 13 * l + i by omega]; exact c3⟩⟩
    · exact ⟨0, fun q => absurd q hi⟩
  obtain ⟨F, hF'⟩ := Classical.axiomOfChoice hf
  have hv : ∀ i, ∃ q : Nat × Nat, i < k → q.1 < 10000 ∧ q.2 < nT ∧ M 6 (F i) = nI q.1 ∧ N 1 (30 + 6 * F i + 2) = nI q.1 ∧ M 4 (F i) = nI q.2 ∧ N 1 (30 + 6 * F i) = nI q.2 := fun i => by
    by_cases hi : i < k
    · obtain ⟨t, kk, v, p, q1, q2, q3, q4, q5, a1, a2, a3, a4, c1, c2, c3, c4, c5, c6⟩ := hF.fig (hF' i hi).1
      exact ⟨(v, t), fun _ => ⟨q3, q1, a3, c3, a1, c1⟩⟩
    · exact ⟨(0, 0), fun q => absurd q hi⟩
  obtain ⟨V, hV⟩ := Classical.axiomOfChoice hv
  refine ⟨k, F, fun i => (V i).1, fun i => (V i).2, b1, b2', b3, fun i hi => ?_, fun i hi => ?_⟩
  · obtain ⟨c1, c2, c3⟩ := hF' i hi
    obtain ⟨d1, d2, d3, d4, d5, d6⟩ := hV i hi
    exact ⟨c1, d1, d2, c2, c3, d3, d4, d5, d6⟩
  · obtain ⟨c1, c2, c3⟩ := hF' i (by omega)
    obtain ⟨d1, d2, d3, d4, d5, d6⟩ := hV i (by omega)
    obtain ⟨c1', c2', c3'⟩ := hF' (i + 1) hi
    obtain ⟨d1', d2', d3', d4', d5', d6'⟩ := hV (i + 1) hi
    have := b5 i hi (F i) (F (i + 1)) c2 c2' c1 c1'
    have e1 : M (1 + 3) (F i) = nI (V i).2 := d5
    have e2 : M (1 + 3) (F (i + 1)) = nI (V (i + 1)).2 := d5'
    rw [e1, e2, nlt (by omega) (by omega)] at this
    exact this
theorem x_layLine (h : RS nT nF nX nC nE nL nS M 1 (N 1)) {l k : Nat} {F V : Nat → Nat} (hl : l < 6) (hk : k ≤ 12) (e : M 17 l = nI k) (hF' : ∀ i, i < k → F i < nF ∧ V i < 10000 ∧ M 18 (12 * l + i) = nI (F i) ∧ M 6 (F i) = nI (V i)) : Res (fun r M' => r = nI k ∧ (∀ j, j < k → M' 30 j = nI (V j)) ∧ ∀ a, a ≠ 30 → M' a = M a) (f_X6_layLine 1 (nI l) M) := by
  obtain ⟨hT, hF, hX, hL, -⟩ := id h
  have f1 : M 2 2 = nI nF := hF.1
  have f3 : nF ≤ 40 := hF.2.2.1
  unfold f_X6_layLine
  simp (maxSteps := 1000000) (disch := omega) only [vv_e, mm_e, jn_e, bd_e, bd_i, e1_0_0, e1_0_1, e1_0_3, e1_0_4, e1_0_6, e1_0_7, e1_1_0, e1_1_1, e1_1_2, e1_1_3, e1_1_4, e1_1_5, e1_1_9, e1_2_1, e1_2_3, e1_2_4, e1_2_5, e1_2_6, e1_2_7, e1_9_1, e1_9_2, e1_9_3, e1_9_4, e1_9_5, e1_9_6, e1_16_0, e1_16_1, e1_19_0, e1_19_2, e1_19_3, e1_19_4, e1_24_1, e1_24_2, e1_24_3, e1_24_5, e1_61_0, e1_61_6, x_length 16 l k M hl e]
  refine lo1 (fun n y M' => ∃ j, j + n = k ∧ y = nI j ∧ (∀ i, i < j → M' 30 i = nI (V i)) ∧ ∀ a, a ≠ 30 → M' a = M a) ?_ fuel k _ M (by show k < 5000; omega) ⟨0, by omega, rfl, fun j hj => absurd hj (Nat.not_lt_zero j), fun _ _ => rfl⟩
  rintro n rc _ M' ⟨j, hj, rfl, h1, h2⟩ ih
  by_cases hjk : j = k
  · subst hjk
    simp (maxSteps := 1000000) (disch := omega) only [ld_i, st_i, la_i, sl_i, nI_add, pk_mul, pk_sub, ng_add, neg_neg_n, nlt, nle, neq, ng_lt, gn_lt, gg_lt, ng_le, gn_le, gg_le, ng_eq, gn_eq, gg_eq, dv_i, if_pos, if_neg, ite_tt, ite_ff, if_b2, if_b2n, l_0, l_1, l_2, l_3, l_4, l_5, l_6, l_7, l_8, l_9, l_10, l_11, l_12, l_13, l_16, l_20, l_24, l_30, l_32, l_33, l_38, l_42, l_43, l_45, l_47, l_48, l_50, l_57, l_60, l_61, l_62, l_96, l_97, l_99, l_100, l_102, l_105, l_110, l_121, l_122, l_124, l_128, l_200, l_255, l_270, l_350, l_360, l_400, l_440, l_490, l_500, l_999, l_1000, l_9999, l_10000, l_99999, l_100000, l_1000000, l_1000000001, l_1000000002, l_1000000003, l_1000000005, l_1000000011, l_1000000012, l_1000000013, l_1000000014]
    exact Res.mk ⟨rfl, h1, h2⟩
  obtain ⟨c1, c2, c3, c4⟩ := hF' j (by omega)
  have m2 : M' 2 2 = nI nF := by rw [h2 2 (by decide)]; exact f1
  have xa := x_at' l k j M' hl (by rw [h2 17 (by decide)]; exact e) hk (by omega)
  rw [h2 18 (by decide), c3] at xa
  have m6 : M' 6 (F j) = nI (V j) := by rw [h2 6 (by decide)]; exact c4
  simp (maxSteps := 1000000) (disch := omega) only [vv_e, mm_e, jn_e, bd_e, bd_i, ld_i, st_i, la_i, sl_i, nI_add, pk_mul, pk_sub, ng_add, neg_neg_n, nlt, nle, neq, ng_lt, gn_lt, gg_lt, ng_le, gn_le, gg_le, ng_eq, gn_eq, gg_eq, dv_i, if_pos, if_neg, ite_tt, ite_ff, if_b2, if_b2n, l_0, l_1, l_2, l_3, l_4, l_5, l_6, l_7, l_8, l_9, l_10, l_11, l_12, l_13, l_16, l_20, l_24, l_30, l_32, l_33, l_38, l_42, l_43, l_45, l_47, l_48, l_50, l_57, l_60, l_61, l_62, l_96, l_97, l_99, l_100, l_102, l_105, l_110, l_121, l_122, l_124, l_128, l_200, l_255, l_270, l_350, l_360, l_400, l_440, l_490, l_500, l_999, l_1000, l_9999, l_10000, l_99999, l_100000, l_1000000, l_1000000001, l_1000000002, l_1000000003, l_1000000005, l_1000000011, l_1000000012, l_1000000013, l_1000000014, xa, has_t m2 c1 (by omega), m6]
  refine ih (n - 1) _ _ (by omega) ⟨j + 1, by omega, rfl, fun i hi => ?_, fun a ha => by rw [up_ne ha]; exact h2 a ha⟩
  by_cases hij : i = j
  · subst hij
    exact up_same _ _ _ _
  · rw [up_k _ _ _ _ _ hij]
    exact h1 i (by omega)
/-- the model's value in a line -/
theorem y_inLine {l k p i : Nat} {F V : Nat → Nat} {N' : Mem} (h1 : 1 ≤ p) (h2 : p ≤ 4) (hl : l < 6) (hk : k ≤ 12) (hnF : nF ≤ 40) (hi : i < k) (a1 : F i < nF) (a2 : V i < 10000) (a3 : N' 1 (270 + 13 * l + (i + 1)) = nI (F i)) (a4 : N' 1 (30 + 6 * F i + 2) = nI (V i)) : f_X10_inLine 0 (nI l) (nI (i + 1)) (nI p) N' = some (nI (V i / cutN p), N') := by
  unfold f_X10_inLine f_X10_lineAt f_X10_figureAt
  simp (maxSteps := 1000000) (disch := omega) only [vv_e, mm_e, jn_e, bd_e, bd_i, e2_0_0, e2_0_1, e2_0_2, e2_0_4, e2_0_5, e2_0_6, e2_0_7, e2_0_8, e2_0_9, e2_0_10, e2_0_11, e2_0_12, e2_0_24, e2_0_25, e2_0_28, e2_0_29, e2_0_30, e2_0_34, e2_0_35, e2_0_36, e2_0_38, ld_i, st_i, la_i, sl_i, nI_add, pk_mul, pk_sub, ng_add, neg_neg_n, nlt, nle, neq, ng_lt, gn_lt, gg_lt, ng_le, gn_le, gg_le, ng_eq, gn_eq, gg_eq, dv_i, if_pos, if_neg, ite_tt, ite_ff, if_b2, if_b2n, l_0, l_1, l_2, l_3, l_4, l_5, l_6, l_7, l_8, l_9, l_10, l_11, l_12, l_13, l_16, l_20, l_24, l_30, l_32, l_33, l_38, l_42, l_43, l_45, l_47, l_48, l_50, l_57, l_60, l_61, l_62, l_96, l_97, l_99, l_100, l_102, l_105, l_110, l_121, l_122, l_124, l_128, l_200, l_255, l_270, l_350, l_360, l_400, l_440, l_490, l_500, l_999, l_1000, l_9999, l_10000, l_99999, l_100000, l_1000000, l_1000000001, l_1000000002, l_1000000003, l_1000000005, l_1000000011, l_1000000012, l_1000000013, l_1000000014, a3, a4, y_placed (V i) p a2 h1 h2]
theorem y_findRun (h : RS nT nF nX nC nE nL nS M 1 (N 1)) {l k p : Nat} {F V : Nat → Nat} (h1 : 1 ≤ p) (h2 : p ≤ 4) (hl : l < 6) (hk : k ≤ 12) (e : N 1 (270 + 13 * l) = nI k) (hF' : ∀ i, i < k → F i < nF ∧ V i < 10000 ∧ N 1 (270 + 13 * l + (i + 1)) = nI (F i) ∧ N 1 (30 + 6 * F i + 2) = nI (V i)) : Res (fun r N' => N' 0 26 = nI (mxw (rl (fun j => V j / cutN p)) k) ∧ (0 < k → N' 0 27 = nI (ps (rl (fun j => V j / cutN p)) k + 2 - mxw (rl (fun j => V j / cutN p)) k)) ∧ Em N N') (f_X10_findRun 0 (nI l) (nI p) N) := by
  have f3 : nF ≤ 40 := h.2.1.2.2.1
  have hr := fun j => rl_le (fun j => V j / cutN p) j
  have hm := mxrl_le (fun j => V j / cutN p)
  unfold f_X10_findRun f_X10_lineAt
  simp (maxSteps := 1000000) (disch := omega) only [vv_e, mm_e, jn_e, bd_e, bd_i, e2_0_0, e2_0_1, e2_0_2, e2_0_4, e2_0_5, e2_0_6, e2_0_7, e2_0_8, e2_0_9, e2_0_10, e2_0_11, e2_0_12, e2_0_24, e2_0_25, e2_0_28, e2_0_29, e2_0_30, e2_0_34, e2_0_35, e2_0_36, e2_0_38, ld_i, st_i, la_i, sl_i, nI_add, pk_mul, pk_sub, ng_add, neg_neg_n, nlt, nle, neq, ng_lt, gn_lt, gg_lt, ng_le, gn_le, gg_le, ng_eq, gn_eq, gg_eq, dv_i, if_pos, if_neg, ite_tt, ite_ff, if_b2, if_b2n, l_0, l_1, l_2, l_3, l_4, l_5, l_6, l_7, l_8, l_9, l_10, l_11, l_12, l_13, l_16, l_20, l_24, l_30, l_32, l_33, l_38, l_42, l_43, l_45, l_47, l_48, l_50, l_57, l_60, l_61, l_62, l_96, l_97, l_99, l_100, l_102, l_105, l_110, l_121, l_122, l_124, l_128, l_200, l_255, l_270, l_350, l_360, l_400, l_440, l_490, l_500, l_999, l_1000, l_9999, l_10000, l_99999, l_100000, l_1000000, l_1000000001, l_1000000002, l_1000000003, l_1000000005, l_1000000011, l_1000000012, l_1000000013, l_1000000014]
  refine lo2 (fun n x y N' => ∃ j, j + n = k ∧ y = nI (j + 1) ∧ (0 < j → x = nI (rl (fun j => V j / cutN p) (j - 1))) ∧ N' 0 26 = nI (mxw (rl (fun j => V j / cutN p)) j) ∧ (0 < j → N' 0 27 = nI (ps (rl (fun j => V j / cutN p)) j + 2 - mxw (rl (fun j => V j / cutN p)) j)) ∧ Em N N') ?_ fuel k _ _ _ (by show k < 5000; omega) ⟨0, by omega, rfl, fun q => absurd q (by decide), by rw [up_k _ _ _ _ _ (by decide), up_same]; rfl, fun q => absurd q (by decide), (Em.rfl'.u0 (by decide) (by decide) (by decide)).u0 (by decide) (by decide) (by decide)⟩
  rintro n rc x _ N' ⟨j, hj, rfl, hx, g1, g2, g3⟩ ih
  have hN1 : N' 1 = N 1 := g3.1 1 (by omega)
  by_cases hjk : j = k
  · subst hjk
    simp (maxSteps := 1000000) (disch := omega) only [vv_e, mm_e, jn_e, bd_e, bd_i, ld_i, st_i, la_i, sl_i, nI_add, pk_mul, pk_sub, ng_add, neg_neg_n, nlt, nle, neq, ng_lt, gn_lt, gg_lt, ng_le, gn_le, gg_le, ng_eq, gn_eq, gg_eq, dv_i, if_pos, if_neg, ite_tt, ite_ff, if_b2, if_b2n, l_0, l_1, l_2, l_3, l_4, l_5, l_6, l_7, l_8, l_9, l_10, l_11, l_12, l_13, l_16, l_20, l_24, l_30, l_32, l_33, l_38, l_42, l_43, l_45, l_47, l_48, l_50, l_57, l_60, l_61, l_62, l_96, l_97, l_99, l_100, l_102, l_105, l_110, l_121, l_122, l_124, l_128, l_200, l_255, l_270, l_350, l_360, l_400, l_440, l_490, l_500, l_999, l_1000, l_9999, l_10000, l_99999, l_100000, l_1000000, l_1000000001, l_1000000002, l_1000000003, l_1000000005, l_1000000011, l_1000000012, l_1000000013, l_1000000014, hN1, e]
    exact Res.mk ⟨g1, g2, g3⟩
  have fin : ∀ v, v = rl (fun j => V j / cutN p) j → Res (fun r N' => N' 0 26 = nI (mxw (rl (fun j => V j / cutN p)) k) ∧ (0 < k → N' 0 27 = nI (ps (rl (fun j => V j / cutN p)) k + 2 - mxw (rl (fun j => V j / cutN p)) k)) ∧ Em N N') (if nI (mxw (rl (fun j => V j / cutN p)) j) < nI v then rc (nI v) (nI (j + 1 + 1)) (up (up N' 0 26 (nI v)) 0 27 (nI (j + 1) - nI v + nI 1)) else rc (nI v) (nI (j + 1 + 1)) N') := by
    intro v hv
    subst hv
    have hrj := hr j
    have hmj := hm j
    by_cases hlt : mxw (rl (fun j => V j / cutN p)) j < rl (fun j => V j / cutN p) j
    · simp (maxSteps := 1000000) (disch := omega) only [ld_i, st_i, la_i, sl_i, nI_add, pk_mul, pk_sub, ng_add, neg_neg_n, nlt, nle, neq, ng_lt, gn_lt, gg_lt, ng_le, gn_le, gg_le, ng_eq, gn_eq, gg_eq, dv_i, if_pos, if_neg, ite_tt, ite_ff, if_b2, if_b2n, l_0, l_1, l_2, l_3, l_4, l_5, l_6, l_7, l_8, l_9, l_10, l_11, l_12, l_13, l_16, l_20, l_24, l_30, l_32, l_33, l_38, l_42, l_43, l_45, l_47, l_48, l_50, l_57, l_60, l_61, l_62, l_96, l_97, l_99, l_100, l_102, l_105, l_110, l_121, l_122, l_124, l_128, l_200, l_255, l_270, l_350, l_360, l_400, l_440, l_490, l_500, l_999, l_1000, l_9999, l_10000, l_99999, l_100000, l_1000000, l_1000000001, l_1000000002, l_1000000003, l_1000000005, l_1000000011, l_1000000012, l_1000000013, l_1000000014]
      refine ih (n - 1) _ _ _ (by omega) ⟨j + 1, by omega, rfl, fun _ => rfl, ?_, fun _ => ?_, (g3.u0 (by decide) (by decide) (by decide)).u0 (by decide) (by decide) (by decide)⟩
      · rw [up_k _ _ _ _ _ (by decide), up_same, mxw, if_pos hlt]
      · rw [up_same, ps, mxw, if_pos hlt, if_pos hlt]
        exact congrArg nI (by omega)
    · simp (maxSteps := 1000000) (disch := omega) only [ld_i, st_i, la_i, sl_i, nI_add, pk_mul, pk_sub, ng_add, neg_neg_n, nlt, nle, neq, ng_lt, gn_lt, gg_lt, ng_le, gn_le, gg_le, ng_eq, gn_eq, gg_eq, dv_i, if_pos, if_neg, ite_tt, ite_ff, if_b2, if_b2n, l_0, l_1, l_2, l_3, l_4, l_5, l_6, l_7, l_8, l_9, l_10, l_11, l_12, l_13, l_16, l_20, l_24, l_30, l_32, l_33, l_38, l_42, l_43, l_45, l_47, l_48, l_50, l_57, l_60, l_61, l_62, l_96, l_97, l_99, l_100, l_102, l_105, l_110, l_121, l_122, l_124, l_128, l_200, l_255, l_270, l_350, l_360, l_400, l_440, l_490, l_500, l_999, l_1000, l_9999, l_10000, l_99999, l_100000, l_1000000, l_1000000001, l_1000000002, l_1000000003, l_1000000005, l_1000000011, l_1000000012, l_1000000013, l_1000000014]
      refine ih (n - 1) _ _ _ (by omega) ⟨j + 1, by omega, rfl, fun _ => rfl, ?_, fun _ => ?_, g3⟩
      · rw [mxw, if_neg hlt]; exact g1
      · by_cases h0 : j = 0
        · subst h0
          exact absurd hlt (by rw [mxw]; omega)
        · rw [ps, mxw, if_neg hlt, if_neg hlt]
          exact g2 (by omega)
  obtain ⟨c1, c2, c3, c4⟩ := hF' j (by omega)
  have yi := y_inLine (N' := N') (F := F) (V := V) h1 h2 hl hk f3 (show j < k by omega) c1 c2 (by rw [hN1]; exact c3) (by rw [hN1]; exact c4)
  cases j with
  | zero =>
    simp (maxSteps := 1000000) (disch := omega) only [vv_e, mm_e, jn_e, bd_e, bd_i, ld_i, st_i, la_i, sl_i, nI_add, pk_mul, pk_sub, ng_add, neg_neg_n, nlt, nle, neq, ng_lt, gn_lt, gg_lt, ng_le, gn_le, gg_le, ng_eq, gn_eq, gg_eq, dv_i, if_pos, if_neg, ite_tt, ite_ff, if_b2, if_b2n, l_0, l_1, l_2, l_3, l_4, l_5, l_6, l_7, l_8, l_9, l_10, l_11, l_12, l_13, l_16, l_20, l_24, l_30, l_32, l_33, l_38, l_42, l_43, l_45, l_47, l_48, l_50, l_57, l_60, l_61, l_62, l_96, l_97, l_99, l_100, l_102, l_105, l_110, l_121, l_122, l_124, l_128, l_200, l_255, l_270, l_350, l_360, l_400, l_440, l_490, l_500, l_999, l_1000, l_9999, l_10000, l_99999, l_100000, l_1000000, l_1000000001, l_1000000002, l_1000000003, l_1000000005, l_1000000011, l_1000000012, l_1000000013, l_1000000014, hN1, e, g1]
    exact fin 1 rfl
  | succ j =>
    obtain ⟨d1, d2, d3, d4⟩ := hF' j (by omega)
    have yj := y_inLine (N' := N') (F := F) (V := V) h1 h2 hl hk f3 (show j < k by omega) d1 d2 (by rw [hN1]; exact d3) (by rw [hN1]; exact d4)
    have q1 : V (j + 1) / cutN p ≤ V (j + 1) := Nat.div_le_self _ _
    have q2 : V j / cutN p ≤ V j := Nat.div_le_self _ _
    have hx' := hx (by omega)
    simp only [Nat.add_sub_cancel] at hx'
    subst hx'
    simp (maxSteps := 1000000) (disch := omega) only [vv_e, mm_e, jn_e, bd_e, bd_i, ld_i, nI_add, pk_mul, pk_sub1, l_0, l_1, l_2, l_3, l_4, l_5, l_6, l_7, l_8, l_9, l_10, l_11, l_12, l_13, l_16, l_20, l_24, l_30, l_32, l_33, l_38, l_42, l_43, l_45, l_47, l_48, l_50, l_57, l_60, l_61, l_62, l_96, l_97, l_99, l_100, l_102, l_105, l_110, l_121, l_122, l_124, l_128, l_200, l_255, l_270, l_350, l_360, l_400, l_440, l_490, l_500, l_999, l_1000, l_9999, l_10000, l_99999, l_100000, l_1000000, l_1000000001, l_1000000002, l_1000000003, l_1000000005, l_1000000011, l_1000000012, l_1000000013, l_1000000014, hN1, e, yi, yj, g1]
    rw [if_neg (nI_nlt (by omega) (by omega)), if_pos (nI_lt (by omega) (by omega))]
    by_cases he : V (j + 1) / cutN p = V j / cutN p
    · rw [if_pos (by rw [he])]
      have er : rl (fun j => V j / cutN p) (j + 1) = rl (fun j => V j / cutN p) j + 1 := by rw [rl]; exact if_pos he
      exact fin _ er.symm
    · rw [if_neg (fun q => he ((nI_eq (by omega) (by omega)).mp q))]
      have er : rl (fun j => V j / cutN p) (j + 1) = 1 := by rw [rl]; exact if_neg he
      have ff := fin 1 er.symm
      rw [pk_sub1, nI_add] at ff
      exact ff
end
