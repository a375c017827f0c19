theorem tab_t {o n f : Nat} {M : Mem} (h : M o 0 = nI n) (hf : f < n) (hn : n < 2 ^ 30) : f_X0_hasTable o (nI f) M = some (nI 1, M) := by
  rw [s_hasTable, h, b2_t ((rg_lt (by omega)).mpr ⟨f, hf, rfl⟩)]
theorem tab_f {o n : Nat} {p : Int32} {M : Mem} (h : M o 0 = nI n) (hp : ¬ Rg p n) (hn : n < 2 ^ 30) : f_X0_hasTable o p M = some (nI 0, M) := by
  rw [s_hasTable, h, b2_f (fun q => hp ((rg_lt (by omega)).mp q))]
theorem ytab_t {n f : Nat} {N : Mem} (h : N 1 0 = nI n) (hf : f < n) (hn : n < 2 ^ 30) : f_X10_isTable 0 (nI f) N = some (nI 1, N) := by
  rw [s_isTable, h, b2_t ((rg_le hn).mpr ⟨f, hf, rfl⟩)]
theorem ytab_f {n : Nat} {p : Int32} {N : Mem} (h : N 1 0 = nI n) (hp : ¬ Rg p n) (hn : n < 2 ^ 30) : f_X10_isTable 0 p N = some (nI 0, N) := by
  rw [s_isTable, h, b2_f (fun q => hp ((rg_le hn).mp q))]
theorem op_print : ∀ (p q r : Int32) (M N : Mem), Inv M N → Same (f_X9_print 0 p q r M) (f_X10_print 0 p q r N) := by
  intro p q r M N h
  obtain ⟨nT, nF, nX, nC, nE, nL, nS, hS, hT, hF, hX, hL, hC, hR, hD, hN, hO, hZ⟩ := h.st
  obtain ⟨t1, t2, t3, t4, t5⟩ := id hT
  obtain ⟨f1, f2, f3, f4⟩ := id hF
  unfold f_X9_print f_X10_print
  by_cases hp : Rg p nT
  case neg =>
    rw [vv_e, vv_e, e1_0_0, e1_1_0, tab_f t1 hp (by omega), bd_e, if_pos (show nI 0 = 0 from rfl), ytab_f t2 hp (by omega), bd_e, if_pos (show nI 0 = 0 from rfl)]
    exact Same.mk h
  obtain ⟨t, ht, rfl⟩ := hp
  rw [vv_e, vv_e, e1_0_0, e1_1_0, tab_t t1 ht (by omega), bd_e, if_neg (show ¬ nI 1 = 0 by decide), ytab_t t2 ht (by omega), bd_e, if_neg (show ¬ nI 1 = 0 by decide), s_isSheet, bd_e, if_b2, y_isSheet, bd_e, if_b2]
  by_cases hq : 0 ≤ q ∧ q ≤ 3
  case neg =>
    rw [if_neg hq, if_neg hq]
    exact Same.mk h
  rw [if_pos hq, if_pos hq, s_arePairs, bd_e, if_b2, s_isPairs, bd_e, if_b2]
  by_cases hr : 1 ≤ r ∧ r ≤ 999
  case neg =>
    rw [if_neg hr, if_neg hr]
    exact Same.mk h
  rw [if_pos hr, if_pos hr]
  obtain ⟨i, hi, rfl⟩ := rgN (c := 3) (by decide) hq
  obtain ⟨gs1, gs2⟩ := g_sheet i (by omega)
  obtain ⟨a1, a2, a3, ⟨z, hz, a4⟩, a5⟩ := h.2.2.2.1 i (by omega)
  repeat rw [vv_e]
  rw [e1_0_6, la_i (by omega) (by decide), gs1, vv_e, e2_0_4, ld_i (by omega) (by decide), a1]
  rcases (show M (66 + 2 * i) 0 = -1 ∨ ¬ M (66 + 2 * i) 0 < 0 ∧ ¬ M (66 + 2 * i) 0 = -1 by
    rcases a3 with a3 | a3 | a3
    · exact Or.inl a3
    · exact Or.inr (by rw [a3]; decide)
    · exact Or.inr (by rw [a3]; decide)) with n1 | ⟨n1, n2⟩
  · rw [n1, if_pos rfl, if_pos (show (-1 : Int32) < 0 by decide)]
    exact Same.mk h
  rw [if_neg n1, if_neg n2]
  -- how many can be values
  have hval : ∃ v, v ≤ z ∧ f_X4_values (66 + 2 * i) M = some (nI v, M) ∧ (∀ j, j < v → nI 0 ≤ M (67 + 2 * i) j ∧ M (67 + 2 * i) j ≤ nI 9999) ∧ (v < z → ¬ (nI 0 ≤ M (67 + 2 * i) v ∧ M (67 + 2 * i) v ≤ nI 9999)) := by
    have key : Res (fun r M' => M' = M ∧ ∃ v, r = nI v ∧ v ≤ z ∧ (∀ j, j < v → nI 0 ≤ M (67 + 2 * i) j ∧ M (67 + 2 * i) j ≤ nI 9999) ∧ (v < z → ¬ (nI 0 ≤ M (67 + 2 * i) v ∧ M (67 + 2 * i) v ≤ nI 9999))) (f_X4_values (66 + 2 * i) M) := by
      unfold f_X4_values
      refine lo1 (fun n y M' => ∃ v, v + n = z ∧ y = nI v ∧ M' = M ∧ ∀ j, j < v → nI 0 ≤ M (67 + 2 * i) j ∧ M (67 + 2 * i) j ≤ nI 9999) ?_ fuel z _ M (by show z < 5000; omega) ⟨0, by omega, rfl, rfl, fun j hj => absurd hj (Nat.not_lt_zero j)⟩
      rintro n rc _ M' ⟨v, hv, rfl, hM, hall⟩ ih
      rw [hM]
      by_cases hvz : v = z
      · subst hvz
        simp (maxSteps := 1000000) (disch := omega) only [vv_e, mm_e, jn_e, bd_e, bd_i, ld_i, st_i, la_i, sl_i, nI_add, pk_mul, pk_sub, ng_add, neg_neg_n, nlt, nle, neq, ng_lt, gn_lt, gg_lt, ng_le, gn_le, gg_le, ng_eq, gn_eq, gg_eq, dv_i, if_pos, if_neg, ite_tt, ite_ff, if_b2, if_b2n, l_0, l_1, l_2, l_3, l_4, l_5, l_6, l_7, l_8, l_9, l_10, l_11, l_12, l_13, l_16, l_20, l_24, l_30, l_32, l_33, l_38, l_42, l_43, l_45, l_47, l_48, l_50, l_57, l_60, l_61, l_62, l_96, l_97, l_99, l_100, l_102, l_105, l_110, l_121, l_122, l_124, l_128, l_200, l_255, l_270, l_350, l_360, l_400, l_440, l_490, l_500, l_999, l_1000, l_9999, l_10000, l_99999, l_100000, l_1000000, l_1000000001, l_1000000002, l_1000000003, l_1000000005, l_1000000011, l_1000000012, l_1000000013, l_1000000014, a4]
        exact Res.mk ⟨rfl, v, rfl, Nat.le_refl _, hall, fun w => absurd w (Nat.lt_irrefl _)⟩
      by_cases hc : nI 0 ≤ M (67 + 2 * i) v ∧ M (67 + 2 * i) v ≤ nI 9999
      · simp (maxSteps := 1000000) (disch := omega) only [vv_e, mm_e, jn_e, bd_e, bd_i, ld_i, st_i, la_i, sl_i, nI_add, pk_mul, pk_sub, ng_add, neg_neg_n, nlt, nle, neq, ng_lt, gn_lt, gg_lt, ng_le, gn_le, gg_le, ng_eq, gn_eq, gg_eq, dv_i, if_pos, if_neg, ite_tt, ite_ff, if_b2, if_b2n, l_0, l_1, l_2, l_3, l_4, l_5, l_6, l_7, l_8, l_9, l_10, l_11, l_12, l_13, l_16, l_20, l_24, l_30, l_32, l_33, l_38, l_42, l_43, l_45, l_47, l_48, l_50, l_57, l_60, l_61, l_62, l_96, l_97, l_99, l_100, l_102, l_105, l_110, l_121, l_122, l_124, l_128, l_200, l_255, l_270, l_350, l_360, l_400, l_440, l_490, l_500, l_999, l_1000, l_9999, l_10000, l_99999, l_100000, l_1000000, l_1000000001, l_1000000002, l_1000000003, l_1000000005, l_1000000011, l_1000000012, l_1000000013, l_1000000014, a4, gs2, s_within, hc, and_self]
        refine ih (n - 1) _ _ (by omega) ⟨v + 1, by omega, rfl, rfl, fun j hj => ?_⟩
        by_cases e : j = v
        · subst e; exact hc
        · exact hall j (by omega)
      · simp (maxSteps := 1000000) (disch := omega) only [vv_e, mm_e, jn_e, bd_e, bd_i, ld_i, st_i, la_i, sl_i, nI_add, pk_mul, pk_sub, ng_add, neg_neg_n, nlt, nle, neq, ng_lt, gn_lt, gg_lt, ng_le, gn_le, gg_le, ng_eq, gn_eq, gg_eq, dv_i, if_pos, if_neg, ite_tt, ite_ff, if_b2, if_b2n, l_0, l_1, l_2, l_3, l_4, l_5, l_6, l_7, l_8, l_9, l_10, l_11, l_12, l_13, l_16, l_20, l_24, l_30, l_32, l_33, l_38, l_42, l_43, l_45, l_47, l_48, l_50, l_57, l_60, l_61, l_62, l_96, l_97, l_99, l_100, l_102, l_105, l_110, l_121, l_122, l_124, l_128, l_200, l_255, l_270, l_350, l_360, l_400, l_440, l_490, l_500, l_999, l_1000, l_9999, l_10000, l_99999, l_100000, l_1000000, l_1000000001, l_1000000002, l_1000000003, l_1000000005, l_1000000011, l_1000000012, l_1000000013, l_1000000014, a4, gs2, s_within, hc]
        exact Res.mk ⟨rfl, v, rfl, by omega, hall, fun _ => hc⟩
    obtain ⟨r, M', e, rfl, v, rfl, c1, c2, c3⟩ := key
    exact ⟨v, c1, e, c2, c3⟩
  obtain ⟨v, v1, v2, v3, v4⟩ := hval
  rw [v2, bd_e]
  repeat rw [vv_e]
  rw [e1_1_0, f1]
  apply R2.same
  refine ro1 (fun n y N' => ∃ j, j + n = v ∧ y = nI j ∧ N' = N) ?_ fuel v _ N (by show v < 5000; omega) ⟨0, by omega, rfl, rfl⟩
  rintro n rd _ N' ⟨j, hj, rfl, hN'⟩ ih
  rw [hN', vv_e, e2_0_5, ld_i (by omega) (by decide), a2, a4]
  by_cases hjv : j = v
  case neg =>
    have hc := v3 j (by omega)
    simp only [jn_e]
    rw [if_pos (nI_lt (show j < z by omega) (by omega)), vv_e, e2_0_6, show 24 * nI i + nI j = nI (24 * i + j) by rw [show (24 : Int32) * nI i = nI (24 * i) from pk_mul 24 i, nI_add], ld_i (by omega) (by decide), a5 j (by omega), s_isInL (M (67 + 2 * i) j) 0 9999 0 9999 N rfl rfl, bd_e, if_b2, if_pos (show 0 ≤ M (67 + 2 * i) j ∧ M (67 + 2 * i) j ≤ 9999 from hc), nI_1]
    exact ih (n - 1) _ _ (by omega) ⟨j + 1, by omega, rfl, rfl⟩
  subst hjv
  have tail : R2 (fun _ M N => Inv M N) (if 40 < nI nF + nI j then some (-1000000003, M) else it1 (fun rc14 (v13 : Int32) M => if v13 < nI j then vv 1 fun x15 => vv (grf G1 x15 0) fun x16 => vv (grf G1 (66 + 2 * i) 2) fun x17 => ld M x17 v13 24 fun x18 => bd (f_X0_add x16 (nI t) 1 x18 r (-1) M) fun x19 M => rc14 (v13 + 1) M else some (nI j, M)) fuel 0 M) (vv (grf G2 0 0) fun x11 => ld N x11 1 3510 fun x12 => if 40 < x12 + nI j then some (-1000000003, N) else it1 (fun rc14 (v13 : Int32) M => if v13 < nI j then vv (grf G2 0 6) fun x15 => ld M x15 ((24 * nI i) + v13) 96 fun x16 => bd (f_X10_newFigure 0 (nI t) 1 x16 r (-1) M) fun x17 M => rc14 (v13 + 1) M else some (nI j, M)) fuel 0 N) := by
    rw [vv_e, e2_0_0, ld_1, f2, nI_add]
    by_cases h40 : 40 < nF + j
    · have h4 : (40 : Int32) < nI (nF + j) := nI_lt (a := 40) h40 (by omega)
      rw [if_pos h4, if_pos h4]
      exact R2.mk h
    have h4 : ¬ (40 : Int32) < nI (nF + j) := nI_nlt (b := nF + j) (a := 40) (by omega) (by omega)
    rw [if_neg h4, if_neg h4]
    apply R2.os
    refine lk11 (fun n a M' c N' => ∃ k, k + n = j ∧ a = nI k ∧ c = nI k ∧ Inv M' N' ∧ RS nT (nF + k) nX nC nE nL nS M' 1 (N' 1) ∧ M' (67 + 2 * i) = M (67 + 2 * i) ∧ N' 6 = N 6) ?_ fuel fuel j _ M _ N (by show j < 5000; omega) (by show j < 5000; omega) ⟨0, by omega, rfl, rfl, h, hS, rfl, rfl⟩
    rintro n2 rc rd2 _ M' _ N2 ⟨k, hk, rfl, rfl, hI', hS', hm, hn⟩ ih2
    by_cases hkj : k = j
    · subst hkj
      rw [if_neg (nI_nlt (Nat.le_refl _) (by omega)), if_neg (nI_nlt (Nat.le_refl _) (by omega))]
      exact Same.mk hI'
    have hc := v3 k (by omega)
    obtain ⟨w, hw, ew⟩ := rgN (c := 9999) (by decide) hc
    have m22 : M' 2 2 = nI (nF + k) := hS'.2.1.1
    have n11 : N2 1 1 = nI (nF + k) := hS'.2.1.2.1
    have xk : M' (67 + 2 * i) k = nI w := by rw [hm]; exact ew
    have yk : N2 6 (24 * i + k) = nI w := by rw [hn, a5 k (by omega)]; exact ew
    have ea := x_add (nF + k) (nI t) 1 (nI w) r (-1) M' m22 (by omega)
    have eb := y_new (nF + k) (nI t) 1 (nI w) r (-1) N2 n11 (by omega)
    rw [if_pos (nI_lt (show k < j by omega) (by omega)), if_pos (nI_lt (show k < j by omega) (by omega))]
    repeat rw [vv_e]
    rw [e1_1_0, gs2, ld_i (by omega) (by decide), xk, ea, bd_e, e2_0_6, show 24 * nI i + nI k = nI (24 * i + k) by rw [show (24 : Int32) * nI i = nI (24 * i) from pk_mul 24 i, nI_add], ld_i (by omega) (by decide), yk, eb, bd_e, nI_1]
    have q1 : Rg (nI t) nT := ⟨t, ht, rfl⟩
    have q2 : Rg (1 : Int32) 8 := ⟨1, by decide, rfl⟩
    have q3 : Rg (nI w) 10000 := ⟨w, by omega, rfl⟩
    refine ih2 (n2 - 1) _ _ _ _ (by omega) ⟨k + 1, by omega, rfl, rfl, inv_add hI' hS' (by omega) q1 q2 q3 (pairs_rg hr) (Or.inl rfl), add_RS hS' (by omega) q1 q2 q3 (pairs_rg hr) (Or.inl rfl), ?_, ?_⟩
    · rw [addM_e _ _ _ _ _ _ _ _ (by omega)]; exact hm
    · unfold addN
      rw [up_ne (by omega), up_ne (by omega), up_ne (by omega), up_ne (by omega), up_ne (by omega), up_ne (by omega), up_ne (by omega)]
      exact hn
  by_cases hjz : j < z
  · rw [jn_e, if_pos (nI_lt hjz (by omega)), vv_e, e2_0_6, show 24 * nI i + nI j = nI (24 * i + j) by rw [show (24 : Int32) * nI i = nI (24 * i) from pk_mul 24 i, nI_add], ld_i (by omega) (by decide), a5 j (by omega), s_isInL (M (67 + 2 * i) j) 0 9999 0 9999 N rfl rfl, bd_e, if_b2, if_neg (show ¬ (0 ≤ M (67 + 2 * i) j ∧ M (67 + 2 * i) j ≤ 9999) from v4 hjz)]
    exact tail
  · rw [jn_e, if_neg (nI_nlt (by omega) (by omega))]
    exact tail
