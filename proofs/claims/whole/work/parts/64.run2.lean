theorem RX.wrk14 {nX : Nat} {cn : Int32} {key tbl lv len sp : Nat → Int32} {N : Mem} (h : RX nX cn key tbl lv len sp (N 1)) {t : Nat} (ht : t < nX) (nm : Int32 → Int32) (hn : ∀ i u, NameOK (key t) i u → N 13 u = nm (nI u)) : Res (fun _ N' => ∀ q, q ≠ 14 → N' q = N q) (f_X10_worked 0 (nI t) N) := by
  obtain ⟨x1, x2, x3, x4⟩ := id h
  obtain ⟨y1, y2, m, hm, y3, y4, d, d0, dm, hs⟩ := x4 t ht
  exact Res.imp (y_worked t m nm N (key t) (fun k => sp (96 * t + k)) (fun k => N 1 (504 + 200 * t + 2 * k)) (fun k => N 1 (505 + 200 * t + 2 * k)) d (by omega) (by rw [show 500 + 200 * t + 2 = 502 + 200 * t by omega]; exact y4) hm (fun k hk => ⟨by rw [show 500 + 200 * t + 4 + 2 * k = 504 + 200 * t + 2 * k by omega], by rw [show 500 + 200 * t + 4 + 2 * k + 1 = 505 + 200 * t + 2 * k by omega]⟩) d0 dm (fun k hk => hs k hk) hn) (fun _ _ q => q.2)
/-- the model's spread leaves its own numbers as they were -/
theorem y_spread0 {nX : Nat} {cn : Int32} {key tbl lv len sp : Nat → Int32} {N : Mem} (hX : RX nX cn key tbl lv len sp (N 1)) (p : Nat) (hp : 0 < p) (hp2 : p < 1000) (y : Int32) : Res (fun _ N' => N' 0 = N 0) (f_X10_spreadFor 0 (nI p) y N) := by
  have e2 := y_cnt hX (nI 12)
  have hn : nX ≤ 14 := hX.2.2.1
  unfold f_X10_spreadFor
  cases hC : CT (N 1) (nI 12) with
  | none =>
    rw [hC] at e2
    simp (maxSteps := 1000000) (disch := omega) only [vv_e, mm_e, jn_e, bd_e, bd_i, e2_0_0, e2_0_1, e2_0_2, e2_0_4, e2_0_5, e2_0_6, e2_0_7, e2_0_8, e2_0_9, e2_0_10, e2_0_11, e2_0_12, e2_0_24, e2_0_25, e2_0_28, e2_0_29, e2_0_30, e2_0_34, e2_0_35, e2_0_36, e2_0_38, e2, orM_n', ld_i, st_i, la_i, sl_i, nI_add, pk_mul, pk_sub, ng_add, neg_neg_n, nlt, nle, neq, ng_lt, gn_lt, gg_lt, ng_le, gn_le, gg_le, ng_eq, gn_eq, gg_eq, dv_i, if_pos, if_neg, ite_tt, ite_ff, if_b2, if_b2n, l_0, l_1, l_2, l_3, l_4, l_5, l_6, l_7, l_8, l_9, l_10, l_11, l_12, l_13, l_16, l_20, l_24, l_30, l_32, l_33, l_38, l_42, l_43, l_45, l_47, l_48, l_50, l_57, l_60, l_61, l_62, l_96, l_97, l_99, l_100, l_102, l_105, l_110, l_121, l_122, l_124, l_128, l_200, l_255, l_270, l_350, l_360, l_400, l_440, l_490, l_500, l_999, l_1000, l_9999, l_10000, l_99999, l_100000, l_1000000, l_1000000001, l_1000000002, l_1000000003, l_1000000005, l_1000000011, l_1000000012, l_1000000013, l_1000000014, pk_div]
    exact Res.mk (by rw [up_ne (by decide), up_ne (by decide)])
  | some t =>
    rw [hC] at e2
    obtain ⟨ht, hg⟩ := hX.ct_s hC
    have hk := hX.key1 ht hg
    simp (maxSteps := 1000000) (disch := omega) only [vv_e, mm_e, jn_e, bd_e, bd_i, e2_0_0, e2_0_1, e2_0_2, e2_0_4, e2_0_5, e2_0_6, e2_0_7, e2_0_8, e2_0_9, e2_0_10, e2_0_11, e2_0_12, e2_0_24, e2_0_25, e2_0_28, e2_0_29, e2_0_30, e2_0_34, e2_0_35, e2_0_36, e2_0_38, e2, orM_s, ld_i, st_i, la_i, sl_i, nI_add, pk_mul, pk_sub, ng_add, neg_neg_n, nlt, nle, neq, ng_lt, gn_lt, gg_lt, ng_le, gn_le, gg_le, ng_eq, gn_eq, gg_eq, dv_i, if_pos, if_neg, ite_tt, ite_ff, if_b2, if_b2n, l_0, l_1, l_2, l_3, l_4, l_5, l_6, l_7, l_8, l_9, l_10, l_11, l_12, l_13, l_16, l_20, l_24, l_30, l_32, l_33, l_38, l_42, l_43, l_45, l_47, l_48, l_50, l_57, l_60, l_61, l_62, l_96, l_97, l_99, l_100, l_102, l_105, l_110, l_121, l_122, l_124, l_128, l_200, l_255, l_270, l_350, l_360, l_400, l_440, l_490, l_500, l_999, l_1000, l_9999, l_10000, l_99999, l_100000, l_1000000, l_1000000001, l_1000000002, l_1000000003, l_1000000005, l_1000000011, l_1000000012, l_1000000013, l_1000000014]
    refine Res.then (RX.wrk14 (N := up (up N 13 110 (nI p)) 13 121 y) hX ht (fun v => if v = nI 110 then nI p else y) (fun i u hu => ?_)) (fun r N' e => ?_)
    · rw [hk] at hu
      rcases hu with ⟨q, -⟩ | ⟨-, ⟨rfl, rfl⟩ | ⟨rfl, rfl⟩⟩ | ⟨q, -⟩
      · exact absurd q (by decide)
      · rw [if_pos rfl, up_k _ _ _ _ _ (by decide), up_same]
      · rw [if_neg (by decide), up_same]
      · exact absurd q (by decide)
    · simp only [vv_e, mm_e, jn_e, bd_e, bd_i, y_held]
      exact Res.mk (by rw [e 0 (by decide), up_ne (by decide), up_ne (by decide)])
theorem y_spreadOf0 {nT nF nX nC nE nL nS b : Nat} {M N : Mem} (h : RS nT nF nX nC nE nL nS M b (N 1)) {f : Nat} (hf : f < nF) : Res (fun _ N' => N' 0 = N 0) (f_X10_spreadOf 0 (nI f) N) := by
  obtain ⟨hT, hF, hX, -⟩ := id h
  obtain ⟨t1, t2, t3, t4, t5⟩ := id hT
  obtain ⟨f1, f2, f3, f4⟩ := id hF
  obtain ⟨t, k, v, p, q1, q2, q3, q4, q5, a1, a2, a3, a4, c1, c2, c3, c4, c5, c6⟩ := hF.fig hf
  unfold f_X10_spreadOf f_X10_yearOf f_X10_figureAt
  simp (maxSteps := 1000000) (disch := omega) only [vv_e, mm_e, jn_e, bd_e, bd_i, e2_0_0, e2_0_1, e2_0_2, e2_0_4, e2_0_5, e2_0_6, e2_0_7, e2_0_8, e2_0_9, e2_0_10, e2_0_11, e2_0_12, e2_0_24, e2_0_25, e2_0_28, e2_0_29, e2_0_30, e2_0_34, e2_0_35, e2_0_36, e2_0_38, ld_i, st_i, la_i, sl_i, nI_add, pk_mul, pk_sub, ng_add, neg_neg_n, nlt, nle, neq, ng_lt, gn_lt, gg_lt, ng_le, gn_le, gg_le, ng_eq, gn_eq, gg_eq, dv_i, if_pos, if_neg, ite_tt, ite_ff, if_b2, if_b2n, l_0, l_1, l_2, l_3, l_4, l_5, l_6, l_7, l_8, l_9, l_10, l_11, l_12, l_13, l_16, l_20, l_24, l_30, l_32, l_33, l_38, l_42, l_43, l_45, l_47, l_48, l_50, l_57, l_60, l_61, l_62, l_96, l_97, l_99, l_100, l_102, l_105, l_110, l_121, l_122, l_124, l_128, l_200, l_255, l_270, l_350, l_360, l_400, l_440, l_490, l_500, l_999, l_1000, l_9999, l_10000, l_99999, l_100000, l_1000000, l_1000000001, l_1000000002, l_1000000003, l_1000000005, l_1000000011, l_1000000012, l_1000000013, l_1000000014, c1, c4]
  exact Res.then (y_spread0 hX p q4 q5 _) (fun r N' e => Res.mk e)
theorem sub_p1 {P L : Nat} (h : L ≤ P + 1) (hL : L < 2 ^ 31) : nI P - nI L + nI 1 = nI (P + 1 - L) := by
  by_cases hz : L ≤ P
  · rw [pk_sub hz, nI_add]
    exact congrArg nI (by omega)
  · rw [gs_sub (by omega) (by omega), show L - P = 1 by omega, show P + 1 - L = 0 by omega]
    decide
theorem op_run : ∀ (p q r : Int32) (M N : Mem), Inv M N → Same (f_X9_run 0 p q r M) (f_X10_run 0 p q r N) := by
  intro p q r M N h
  obtain ⟨nT, nF, nX, nC, nE, nL, nS, hS, hT, hF, hX, hL, hC, hR, hD, hN, hO, hZ⟩ := h.st
  have f3 : nF ≤ 40 := hF.2.2.1
  unfold f_X9_run f_X10_run
  simp only [vv_e, mm_e, jn_e, bd_e, bd_i, e1_0_0, e1_0_1, e1_0_3, e1_0_4, e1_0_6, e1_0_7, e1_1_0, e1_1_1, e1_1_2, e1_1_3, e1_1_4, e1_1_5, e1_1_9, e1_2_1, e1_2_3, e1_2_4, e1_2_5, e1_2_6, e1_2_7, e1_9_1, e1_9_2, e1_9_3, e1_9_4, e1_9_5, e1_9_6, e1_16_0, e1_16_1, e1_19_0, e1_19_2, e1_19_3, e1_19_4, e1_24_1, e1_24_2, e1_24_3, e1_24_5, e1_61_0, e1_61_6, e2_0_0, e2_0_1, e2_0_2, e2_0_4, e2_0_5, e2_0_6, e2_0_7, e2_0_8, e2_0_9, e2_0_10, e2_0_11, e2_0_12, e2_0_24, e2_0_25, e2_0_28, e2_0_29, e2_0_30, e2_0_34, e2_0_35, e2_0_36, e2_0_38, s_within, s_places, y_places, if_b2, s_isInL p 0 5 0 5 N rfl rfl, s_isInL r 0 2 0 2 N rfl rfl]
  by_cases hp : 0 ≤ p ∧ p ≤ 5
  case neg =>
    rw [if_neg hp, if_neg hp]
    exact Same.mk h
  rw [if_pos hp, if_pos hp]
  by_cases hq : 1 ≤ q ∧ q ≤ 4
  case neg =>
    rw [if_neg hq, if_neg hq]
    exact Same.mk h
  rw [if_pos hq, if_pos hq]
  by_cases hr : 0 ≤ r ∧ r ≤ 2
  case neg =>
    rw [if_neg hr, if_neg hr]
    exact Same.mk h
  rw [if_pos hr, if_pos hr]
  obtain ⟨l, hl, rfl⟩ := rgN (c := 5) (by decide) hp
  obtain ⟨w, hw, rfl⟩ := rgN (c := 2) (by decide) hr
  obtain ⟨pl, hpl, rfl⟩ := rgN (p := q) (c := 4) (by decide) ⟨Int32.le_trans (by decide) hq.1, hq.2⟩
  have hpl1 : 1 ≤ pl := (nI_leI (a := 1) (by decide) (by omega)).mp hq.1
  obtain ⟨k, F, V, T, k1, k2, k3, k4, k5⟩ := line_facts hS (show l < 6 by omega)
  obtain ⟨r1, M', e1, rfl, m1, m2⟩ := x_layLine hS (show l < 6 by omega) k1 k2 (F := F) (V := V) (fun i hi => ⟨(k4 i hi).1, (k4 i hi).2.1, (k4 i hi).2.2.2.1, (k4 i hi).2.2.2.2.2.1⟩)
  obtain ⟨r2, N', e2, n1, n2, n3⟩ := y_findRun hS hpl1 hpl (show l < 6 by omega) k1 k3 (F := F) (V := V) (fun i hi => ⟨(k4 i hi).1, (k4 i hi).2.1, (k4 i hi).2.2.2.2.1, (k4 i hi).2.2.2.2.2.2.1⟩)
  have ec : Ec M M' := fun a a1 a2 a3 a4 a5 a6 => m2 a a3
  have h' := h.ee ec n3
  have hv : ∀ j, j < k → V j < 10000 ∧ M' 30 j = nI (V j) := fun j hj => ⟨(k4 j hj).2.1, m1 j hj⟩
  have xl := x_longest 30 k pl V M' rfl k1 hpl1 hpl hv
  have hN1 : N' 1 = N 1 := n3.1 1 (by omega)
  have hr1 := fun j => (rl_le (fun j => V j / cutN pl) j).2
  have hmk := mxrl_le (fun j => V j / cutN pl) k
  simp only [e1, e2, xl, vv_e, mm_e, jn_e, bd_e, bd_i]
  rcases (show w = 0 ∨ w = 1 ∨ w = 2 by omega) with rfl | rfl | rfl
  · rw [if_pos (show nI 0 = 0 from rfl), if_pos (show nI 0 = 0 from rfl), n1]
    exact Same.mk h'
  · rw [if_neg (show ¬ nI 1 = 0 by decide), if_neg (show ¬ nI 1 = 0 by decide)]
    have xr := x_reach 30 k pl (mxw (rl (fun j => V j / cutN pl)) k) V M' rfl k1 hpl1 hpl (by omega) hv
    by_cases hk0 : k = 0
    · subst hk0
      have z1 : mxw (rl (fun j => V j / cutN pl)) 0 = 0 := rfl
      rw [z1] at xr n1
      rw [z1]
      rw [show firstT (rl (fun j => V j / cutN pl)) 0 0 = none from rfl, orM_n'] at xr
      simp (maxSteps := 1000000) (disch := omega) only [vv_e, mm_e, jn_e, bd_e, bd_i, ld_i, st_i, la_i, sl_i, nI_add, pk_mul, pk_sub, ng_add, neg_neg_n, nlt, nle, neq, ng_lt, gn_lt, gg_lt, ng_le, gn_le, gg_le, ng_eq, gn_eq, gg_eq, dv_i, if_pos, if_neg, ite_tt, ite_ff, if_b2, if_b2n, l_0, l_1, l_2, l_3, l_4, l_5, l_6, l_7, l_8, l_9, l_10, l_11, l_12, l_13, l_16, l_20, l_24, l_30, l_32, l_33, l_38, l_42, l_43, l_45, l_47, l_48, l_50, l_57, l_60, l_61, l_62, l_96, l_97, l_99, l_100, l_102, l_105, l_110, l_121, l_122, l_124, l_128, l_200, l_255, l_270, l_350, l_360, l_400, l_440, l_490, l_500, l_999, l_1000, l_9999, l_10000, l_99999, l_100000, l_1000000, l_1000000001, l_1000000002, l_1000000003, l_1000000005, l_1000000011, l_1000000012, l_1000000013, l_1000000014, xr, n1]
      exact Same.mk h'
    · obtain ⟨s1, s2, s3⟩ := ps_ok hr1 k (by omega)
      have s4 := (rl_le (fun j => V j / cutN pl) (ps (rl (fun j => V j / cutN pl)) k)).1
      have s5 := hr1 (ps (rl (fun j => V j / cutN pl)) k)
      rw [mxw_first hr1 (by omega), orM_s] at xr
      have n2' := n2 (by omega)
      generalize ps (rl (fun j => V j / cutN pl)) k = P at *
      generalize hLL : mxw (rl (fun j => V j / cutN pl)) k = L at *
      rw [s2] at s4 s5
      obtain ⟨c1, c2, c3, c4, c5, c6, c7, c8, c9⟩ := k4 (P + 1 - L) (by omega)
      have xa := x_at' l k (P + 1 - L) M' (by omega) (by rw [m2 17 (by decide)]; exact k2) k1 (by omega)
      rw [m2 18 (by decide), c4] at xa
      have c5' : N' 1 (270 + 13 * l + (P + 2 - L)) = nI (F (P + 1 - L)) := by rw [hN1, show P + 2 - L = P + 1 - L + 1 by omega]; exact c5
      unfold f_X10_lineAt
      simp (maxSteps := 1000000) (disch := omega) only [vv_e, mm_e, jn_e, bd_e, bd_i, ld_i, st_i, la_i, sl_i, nI_add, pk_mul, pk_sub, ng_add, neg_neg_n, nlt, nle, neq, ng_lt, gn_lt, gg_lt, ng_le, gn_le, gg_le, ng_eq, gn_eq, gg_eq, dv_i, if_pos, if_neg, ite_tt, ite_ff, if_b2, if_b2n, l_0, l_1, l_2, l_3, l_4, l_5, l_6, l_7, l_8, l_9, l_10, l_11, l_12, l_13, l_16, l_20, l_24, l_30, l_32, l_33, l_38, l_42, l_43, l_45, l_47, l_48, l_50, l_57, l_60, l_61, l_62, l_96, l_97, l_99, l_100, l_102, l_105, l_110, l_121, l_122, l_124, l_128, l_200, l_255, l_270, l_350, l_360, l_400, l_440, l_490, l_500, l_999, l_1000, l_9999, l_10000, l_99999, l_100000, l_1000000, l_1000000001, l_1000000002, l_1000000003, l_1000000005, l_1000000011, l_1000000012, l_1000000013, l_1000000014, sub_p1, xr, n1, n2', xa, c5']
      exact Same.mk h'
  · rw [if_neg (show ¬ nI 2 = 0 by decide), if_neg (show ¬ nI 2 = 0 by decide)]
    have xr := x_reach 30 k pl (mxw (rl (fun j => V j / cutN pl)) k) V M' rfl k1 hpl1 hpl (by omega) hv
    rw [xr, bd_e, if_neg (show ¬ nI 2 = 1 by decide), if_pos (show nI 2 = 2 from rfl), bd_v, bd_v]
    unfold f_X6_odds f_X10_oddsOf f_X10_lineAt
    simp only [vv_e, mm_e, jn_e, bd_e, bd_i, e1_0_0, e1_0_1, e1_0_3, e1_0_4, e1_0_6, e1_0_7, e1_1_0, e1_1_1, e1_1_2, e1_1_3, e1_1_4, e1_1_5, e1_1_9, e1_2_1, e1_2_3, e1_2_4, e1_2_5, e1_2_6, e1_2_7, e1_9_1, e1_9_2, e1_9_3, e1_9_4, e1_9_5, e1_9_6, e1_16_0, e1_16_1, e1_19_0, e1_19_2, e1_19_3, e1_19_4, e1_24_1, e1_24_2, e1_24_3, e1_24_5, e1_61_0, e1_61_6, e2_0_0, e2_0_1, e2_0_2, e2_0_4, e2_0_5, e2_0_6, e2_0_7, e2_0_8, e2_0_9, e2_0_10, e2_0_11, e2_0_12, e2_0_24, e2_0_25, e2_0_28, e2_0_29, e2_0_30, e2_0_34, e2_0_35, e2_0_36, e2_0_38]
    apply R2.same
    have hpos : ∃ A, ((orM (firstT (rl (fun j => V j / cutN pl)) (mxw (rl (fun j => V j / cutN pl)) k) k) - nI (mxw (rl (fun j => V j / cutN pl)) k)) + 1 = nI A) ∧ (0 < mxw (rl (fun j => V j / cutN pl)) k → A + mxw (rl (fun j => V j / cutN pl)) k ≤ k ∧ N' 0 27 = nI (A + 1)) := by
      by_cases hk0 : k = 0
      · subst hk0
        refine ⟨0, ?_, fun q => absurd q (Nat.lt_irrefl 0)⟩
        rw [show firstT (rl (fun j => V j / cutN pl)) (mxw (rl (fun j => V j / cutN pl)) 0) 0 = none from rfl, orM_n', show mxw (rl (fun j => V j / cutN pl)) 0 = 0 from rfl]
        decide
      · obtain ⟨s1, s2, s3⟩ := ps_ok hr1 k (by omega)
        have s4 := (rl_le (fun j => V j / cutN pl) (ps (rl (fun j => V j / cutN pl)) k)).1
        have s5 := hr1 (ps (rl (fun j => V j / cutN pl)) k)
        rw [s2] at s4 s5
        rw [mxw_first hr1 (by omega), orM_s]
        refine ⟨ps (rl (fun j => V j / cutN pl)) k + 1 - mxw (rl (fun j => V j / cutN pl)) k, sub_p1 (by omega) (by omega), fun _ => ⟨by omega, ?_⟩⟩
        rw [n2 (by omega)]
        exact congrArg nI (by omega)
    obtain ⟨A, a1, a2⟩ := hpos
    rw [a1]
    generalize mxw (rl (fun j => V j / cutN pl)) k = L at *
    refine lr22 (fun n v d M2 w e N2 => ∃ j, (j + n = L ∨ (L ≤ j ∧ n = 0)) ∧ (1 ≤ j ∧ j ≤ 13) ∧ d = nI j ∧ e = nI j ∧ w = v ∧ Ec M M2 ∧ Em N N2 ∧ N2 0 26 = nI L ∧ (0 < L → N2 0 27 = nI (A + 1))) ?_ fuel fuel (L - 1) _ _ M' _ _ N' (by show L - 1 < 5000; omega) (by show L - 1 < 5000; omega) ⟨1, by omega, by omega, rfl, rfl, rfl, ec, n3, n1, fun q => (a2 q).2⟩
    rintro n rc rd v d M2 w e N2 ⟨j, hj, hj1, rfl, rfl, rfl, E1, E2, g1, g2⟩ ih
    have hh := h.ee E1 E2
    by_cases hjL : L ≤ j
    · rw [g1, if_neg (fun q => absurd ((nI_ltI (show j < 2 ^ 31 by omega) (show L < 2 ^ 31 by omega)).mp q) (by omega)), if_neg (fun q => absurd ((nI_ltI (show j < 2 ^ 31 by omega) (show L < 2 ^ 31 by omega)).mp q) (by omega))]
      exact R2.mk hh
    obtain ⟨a3, a4⟩ := a2 (by omega)
    obtain ⟨c1, c2, c3, c4, c5, c6, c7, c8, c9⟩ := k4 (A + j) (by omega)
    have hM2 : ∀ a, a = 2 ∨ a = 17 ∨ a = 18 → M2 a = M a := fun a ha => E1 a (by omega) (by omega) (by omega) (by omega) (by omega) (by omega)
    have xa := x_at' l k (A + j) M2 (by omega) (by rw [hM2 17 (by omega)]; exact k2) k1 (by omega)
    rw [hM2 18 (by omega), c4] at xa
    have m22 : M2 2 2 = nI nF := by rw [hM2 2 (by omega)]; exact hF.1
    have hN21 : N2 1 = N 1 := E2.1 1 (by omega)
    have c5' : N2 1 (270 + 13 * l + (A + 1) + j) = nI (F (A + j)) := by rw [hN21, show 270 + 13 * l + (A + 1) + j = 270 + 13 * l + (A + j + 1) by omega]; exact c5
    have hS2 : RS nT nF nX nC nE nL nS M2 1 (N2 1) := by rw [hN21]; exact hS.ec (Or.inl rfl) E1
    obtain ⟨s, hs, o1, o2⟩ := spreadOf_eq (Or.inl rfl) hS2 c1
    have g2' := g2 (by omega)
    simp (maxSteps := 1000000) (disch := omega) only [vv_e, mm_e, jn_e, bd_e, bd_i, ld_i, st_i, la_i, sl_i, nI_add, pk_mul, pk_sub, ng_add, neg_neg_n, nlt, nle, neq, ng_lt, gn_lt, gg_lt, ng_le, gn_le, gg_le, ng_eq, gn_eq, gg_eq, dv_i, if_pos, if_neg, ite_tt, ite_ff, if_b2, if_b2n, l_0, l_1, l_2, l_3, l_4, l_5, l_6, l_7, l_8, l_9, l_10, l_11, l_12, l_13, l_16, l_20, l_24, l_30, l_32, l_33, l_38, l_42, l_43, l_45, l_47, l_48, l_50, l_57, l_60, l_61, l_62, l_96, l_97, l_99, l_100, l_102, l_105, l_110, l_121, l_122, l_124, l_128, l_200, l_255, l_270, l_350, l_360, l_400, l_440, l_490, l_500, l_999, l_1000, l_9999, l_10000, l_99999, l_100000, l_1000000, l_1000000001, l_1000000002, l_1000000003, l_1000000005, l_1000000011, l_1000000012, l_1000000013, l_1000000014, g1, g2', xa, has_t m22 c1 (by omega), c5']
    obtain ⟨M3, u1, u2⟩ := o1.v
    obtain ⟨N3, u3, u4⟩ := o2.v
    have g1' : N3 0 = N2 0 := by
      obtain ⟨r', N4, w1, w2⟩ := y_spreadOf0 hS2 c1
      rw [u3] at w1
      cases w1
      exact w2
    rw [u1, u3]
    simp (maxSteps := 1000000) (disch := omega) only [vv_e, mm_e, jn_e, bd_e, bd_i, ld_i, st_i, la_i, sl_i, nI_add, pk_mul, pk_sub, ng_add, neg_neg_n, nlt, nle, neq, ng_lt, gn_lt, gg_lt, ng_le, gn_le, gg_le, ng_eq, gn_eq, gg_eq, dv_i, if_pos, if_neg, ite_tt, ite_ff, if_b2, if_b2n, l_0, l_1, l_2, l_3, l_4, l_5, l_6, l_7, l_8, l_9, l_10, l_11, l_12, l_13, l_16, l_20, l_24, l_30, l_32, l_33, l_38, l_42, l_43, l_45, l_47, l_48, l_50, l_57, l_60, l_61, l_62, l_96, l_97, l_99, l_100, l_102, l_105, l_110, l_121, l_122, l_124, l_128, l_200, l_255, l_270, l_350, l_360, l_400, l_440, l_490, l_500, l_999, l_1000, l_9999, l_10000, l_99999, l_100000, l_1000000, l_1000000001, l_1000000002, l_1000000003, l_1000000005, l_1000000011, l_1000000012, l_1000000013, l_1000000014, lgc_gt']
    by_cases hlim : (1000000000 : Int64) < w * Int32.toInt64 (nI (2 * s + 1))
    · simp only [if_pos hlim]
      exact ih (n - 1) _ _ _ _ _ _ (by omega) ⟨j + 1, by omega, by omega, rfl, rfl, rfl, E1.trans u2, E2.trans u4, by rw [g1']; exact g1, fun q => by rw [g1']; exact g2 q⟩
    · simp only [if_neg hlim]
      exact ih (n - 1) _ _ _ _ _ _ (by omega) ⟨j + 1, by omega, by omega, rfl, rfl, rfl, E1.trans u2, E2.trans u4, by rw [g1']; exact g1, fun q => by rw [g1']; exact g2 q⟩
