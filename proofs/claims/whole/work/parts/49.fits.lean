theorem it4_succ {A1 A2 A3 A4 β : Type} (B : (A1 → A2 → A3 → A4 → Mem → Option β) → A1 → A2 → A3 → A4 → Mem → Option β) (n : Nat) : it4 B (n + 1) = B (it4 B n) := Eq.trans rfl rfl
theorem it2_s {A1 A2 β : Type} (B : (A1 → A2 → Mem → Option β) → A1 → A2 → Mem → Option β) (n : Nat) : it2 B (n + 1) = B (it2 B n) := Eq.trans rfl rfl
theorem it2_fu {A1 A2 β : Type} {B : (A1 → A2 → Mem → Option β) → A1 → A2 → Mem → Option β} {a : A1} {b : A2} {M : Mem} {z : Option β} (h : ∀ n, it2 B (n + 1 + 1 + 1 + 1 + 1) a b M = z) : it2 B fuel a b M = z := h 4995
theorem it4_fu {A1 A2 A3 A4 β : Type} {B : (A1 → A2 → A3 → A4 → Mem → Option β) → A1 → A2 → A3 → A4 → Mem → Option β} {a : A1} {b : A2} {c : A3} {d : A4} {M : Mem} {z : Option β} (h : ∀ n, it4 B (n + 1 + 1 + 1 + 1 + 1) a b c d M = z) : it4 B fuel a b c d M = z := h 4995
theorem sub_ng (a b : Nat) : nI a - -nI b = nI (a + b) := by
  rw [Int32.sub_eq_add_neg, Int32.neg_neg, nI_add]
theorem b2_t {p : Prop} [Decidable p] (h : p) : b2 p = nI 1 := if_pos h
theorem b2_f {p : Prop} [Decidable p] (h : ¬ p) : b2 p = nI 0 := if_neg h
theorem d64 (a b : Int32) : (Int32.toInt64 a - Int32.toInt64 b).toInt = a.toInt - b.toInt := by
  have h1 := a.le_toInt
  have h2 := a.toInt_lt
  have h3 := b.le_toInt
  have h4 := b.toInt_lt
  rw [Int64.toInt_sub, Int32.toInt_toInt64, Int32.toInt_toInt64, Int.bmod_eq_of_le (by omega) (by omega)]
section
variable {nT nF nX nC nE nL nS b : Nat} {M N : Mem}
theorem spreadOf_eq (hb : b = 1 ∨ b = 31) (h : RS nT nF nX nC nE nL nS M b (N 1)) {f : Nat} (hf : f < nF) : ∃ s, s ≤ 10000 ∧ OkC M (nI s) (f_X6_spreadOf b (nI f) M) ∧ OkM N (nI s) (f_X10_spreadOf 0 (nI f) N) := by
  obtain ⟨hT, hF, hX, -⟩ := id h
  obtain ⟨t1, t2, t3, t4, t5⟩ := id hT
  obtain ⟨f1, f2, f3, f4⟩ := id hF
  obtain ⟨t, k, v, p, q1, q2, q3, q4, q5, a1, a2, a3, a4, c1, c2, c3, c4, c5, c6⟩ := hF.fig hf
  obtain ⟨y1, -⟩ := t4 t q1
  obtain ⟨s, hs, o1, o2⟩ := spread_eq hb h p q4 q5 (M (b + 2) t)
  refine ⟨s, hs, ?_, ?_⟩
  · unfold f_X6_spreadOf f_X0_yearOf
    simp (maxSteps := 1000000) (disch := omega) only [vv_e, mm_e, jn_e, bd_e, bd_i, gb_0_0, gb_0_1, gb_0_2, gb_0_3, gb_0_4, gb_0_5, gb_0_9, gb_1_1, gb_1_3, gb_1_4, gb_1_5, gb_1_6, gb_1_7, gb_8_1, gb_8_2, gb_8_3, gb_8_4, gb_8_5, gb_8_6, gb_15_0, gb_15_1, gb_18_0, gb_18_2, gb_18_3, gb_18_4, gb_23_1, gb_23_2, gb_23_3, gb_23_5, ld_i, st_i, la_i, sl_i, nI_add, pk_mul, pk_sub, ng_add, neg_neg_n, nlt, nle, neq, ng_lt, gn_lt, gg_lt, ng_le, gn_le, gg_le, ng_eq, gn_eq, gg_eq, dv_i, if_pos, if_neg, ite_tt, ite_ff, if_b2, if_b2n, l_0, l_1, l_2, l_3, l_4, l_5, l_6, l_7, l_8, l_9, l_10, l_11, l_12, l_13, l_16, l_20, l_24, l_30, l_32, l_33, l_38, l_42, l_43, l_45, l_47, l_48, l_50, l_57, l_60, l_61, l_62, l_96, l_97, l_99, l_100, l_102, l_105, l_110, l_121, l_122, l_124, l_128, l_200, l_255, l_270, l_350, l_360, l_400, l_440, l_490, l_500, l_999, l_1000, l_9999, l_10000, l_99999, l_100000, l_1000000, l_1000000001, l_1000000002, l_1000000003, l_1000000005, l_1000000011, l_1000000012, l_1000000013, l_1000000014, a1, a4]
    exact OkC.then o1 (fun M' e => OkC.mk e)
  · unfold f_X10_spreadOf f_X10_yearOf f_X10_figureAt
    simp (maxSteps := 1000000) (disch := omega) only [vv_e, mm_e, jn_e, bd_e, bd_i, e2_0_0, e2_0_1, e2_0_2, e2_0_4, e2_0_5, e2_0_6, e2_0_7, e2_0_8, e2_0_9, e2_0_10, e2_0_11, e2_0_12, e2_0_24, e2_0_25, e2_0_28, e2_0_29, e2_0_30, e2_0_34, e2_0_35, e2_0_36, e2_0_38, ld_i, st_i, la_i, sl_i, nI_add, pk_mul, pk_sub, ng_add, neg_neg_n, nlt, nle, neq, ng_lt, gn_lt, gg_lt, ng_le, gn_le, gg_le, ng_eq, gn_eq, gg_eq, dv_i, if_pos, if_neg, ite_tt, ite_ff, if_b2, if_b2n, l_0, l_1, l_2, l_3, l_4, l_5, l_6, l_7, l_8, l_9, l_10, l_11, l_12, l_13, l_16, l_20, l_24, l_30, l_32, l_33, l_38, l_42, l_43, l_45, l_47, l_48, l_50, l_57, l_60, l_61, l_62, l_96, l_97, l_99, l_100, l_102, l_105, l_110, l_121, l_122, l_124, l_128, l_200, l_255, l_270, l_350, l_360, l_400, l_440, l_490, l_500, l_999, l_1000, l_9999, l_10000, l_99999, l_100000, l_1000000, l_1000000001, l_1000000002, l_1000000003, l_1000000005, l_1000000011, l_1000000012, l_1000000013, l_1000000014, c1, c4, y1]
    exact OkM.then o2 (fun M' e => OkM.mk e)
theorem spreadOf_det (hb : b = 1 ∨ b = 31) (h : RS nT nF nX nC nE nL nS M b (N 1)) {f : Nat} (hf : f < nF) : ∃ s, s ≤ 10000 ∧ (∀ M', Ec M M' → OkC M' (nI s) (f_X6_spreadOf b (nI f) M')) ∧ ∀ N', Em N N' → OkM N' (nI s) (f_X10_spreadOf 0 (nI f) N') := by
  obtain ⟨v, ⟨s, hs, rfl⟩, a, c⟩ := det (M := M) (N := N) (P := fun v => ∃ s, s ≤ 10000 ∧ v = nI s) (x := fun M' => f_X6_spreadOf b (nI f) M') (y := fun N' => f_X10_spreadOf 0 (nI f) N') (fun M' N' e1 e2 => by
    obtain ⟨s, hs, x, y⟩ := spreadOf_eq (N := N') hb (by rw [e2.1 1 (by omega)]; exact h.ec hb e1) hf
    exact ⟨nI s, ⟨s, hs, rfl⟩, x, y⟩)
  exact ⟨s, hs, a, c⟩
theorem worked_eq (hb : b = 1 ∨ b = 31) (h : RS nT nF nX nC nE nL nS M b (N 1)) {f t tt : Nat} (hf : f < nF) (hT' : M (b + 3) f = nI t) (htn : t < 12) (hC : CT (N 1) (nI t) = some tt) : ∃ v, OkC M v (f_X6_worked b (nI f) M) ∧ OkM N v (f_X10_workedOf 0 (nI f) N) := by
  obtain ⟨hT, hF, hX, -⟩ := id h
  obtain ⟨t1, t2, t3, t4, t5⟩ := id hT
  obtain ⟨f1, f2, f3, f4⟩ := id hF
  obtain ⟨t', k, v, p, q1, q2, q3, q4, q5, a1, a2, a3, a4, c1, c2, c3, c4, c5, c6⟩ := hF.fig hf
  have ett : t' = t := (nI_eq (by omega) (by omega)).mp (a1.symm.trans hT')
  subst ett
  have hx3 : nX ≤ 14 := hX.2.2.1
  obtain ⟨ht, hg⟩ := hX.ct_s hC
  have hk0 := hX.key0 ht htn hg
  have e1 := x_lat hb hX 0 (nI t') (nI t') (Or.inl ⟨rfl, ⟨t', htn, rfl⟩, rfl⟩)
  rw [hC, orN_s] at e1
  have ea := x_ahead (b + 1) f M (by omega)
  rw [gb_1_3 hb, a1] at ea
  have ec : cntE (M (b + 3)) (nI t') f = cntE (fun k => N 1 (30 + 6 * k)) (nI t') f := cntE_congr f (fun k hk => (f4 k (by omega)).1.1.symm)
  rw [ec] at ea
  generalize hah : cntE (fun k => N 1 (30 + 6 * k)) (nI t') f = ah at ea
  have X : ∀ fv, OkC M (EV (N 1) tt (fun u => if u = nI 110 then nI p else if u = nI 102 then fv else nI ah)) (bd (f_X8_give (b + 8) (nI tt) (nI p) fv (nI ah) M) fun x M => some (x, M)) := fun fv => by
    refine OkC.then (hX.giv hb ht _ (nI p) fv (nI ah) (fun i u hu => ?_)) (fun M' e => OkC.mk e)
    rw [hk0] at hu
    rcases hu with ⟨-, ⟨rfl, rfl⟩ | ⟨rfl, rfl⟩ | ⟨rfl, rfl⟩⟩ | ⟨q, -⟩ | ⟨q, -⟩
    · exact Or.inl ⟨rfl, if_pos rfl⟩
    · exact Or.inr (Or.inl ⟨rfl, by rw [if_neg (by decide), if_pos rfl]⟩)
    · exact Or.inr (Or.inr ⟨rfl, by rw [if_neg (by decide), if_neg (by decide)]⟩)
    · exact absurd q (by decide)
    · exact absurd q (by decide)
  have hcnt : ∀ fv, f_X10_counts 0 (nI t') (up (up (up N 13 110 (nI p)) 13 102 fv) 13 105 (nI ah)) = some (nI tt, up (up (up N 13 110 (nI p)) 13 102 fv) 13 105 (nI ah)) := fun fv => by
    rw [y_cnt (N := up (up (up N 13 110 (nI p)) 13 102 fv) 13 105 (nI ah)) hX (nI t')]
    exact congrArg (fun z => some (orM z, up (up (up N 13 110 (nI p)) 13 102 fv) 13 105 (nI ah))) hC
  have Y : ∀ fv, OkM N (EV (N 1) tt (fun u => if u = nI 110 then nI p else if u = nI 102 then fv else nI ah)) (bd (f_X10_worked 0 (nI tt) (up (up (up N 13 110 (nI p)) 13 102 fv) 13 105 (nI ah))) fun x M => some (x, M)) := fun fv => by
    have eE : Em N (up (up (up N 13 110 (nI p)) 13 102 fv) 13 105 (nI ah)) := ((Em.rfl'.u (by omega)).u (by omega)).u (by omega)
    refine OkM.tr eE ?_
    refine OkM.then (RX.wrk (N := up (up (up N 13 110 (nI p)) 13 102 fv) 13 105 (nI ah)) hX ht (fun u => if u = nI 110 then nI p else if u = nI 102 then fv else nI ah) (fun i u hu => ?_)) (fun M' e => OkM.mk e)
    rw [hk0] at hu
    rcases hu with ⟨-, ⟨rfl, rfl⟩ | ⟨rfl, rfl⟩ | ⟨rfl, rfl⟩⟩ | ⟨q, -⟩ | ⟨q, -⟩
    · rw [if_pos rfl, up_k _ _ _ _ _ (by decide), up_k _ _ _ _ _ (by decide), up_same]
    · rw [if_neg (by decide), if_pos rfl, up_k _ _ _ _ _ (by decide), up_same]
    · rw [if_neg (by decide), if_neg (by decide), up_same]
    · exact absurd q (by decide)
    · exact absurd q (by decide)
  rcases c6 with c6 | ⟨f', hf', c6⟩
  · refine ⟨EV (N 1) tt (fun u => if u = nI 110 then nI p else if u = nI 102 then nI 0 else nI ah), ?_, ?_⟩
    · unfold f_X6_worked
      simp (maxSteps := 1000000) (disch := omega) only [vv_e, mm_e, jn_e, bd_e, bd_i, gb_0_0, gb_0_1, gb_0_2, gb_0_3, gb_0_4, gb_0_5, gb_0_9, gb_1_1, gb_1_3, gb_1_4, gb_1_5, gb_1_6, gb_1_7, gb_8_1, gb_8_2, gb_8_3, gb_8_4, gb_8_5, gb_8_6, gb_15_0, gb_15_1, gb_18_0, gb_18_2, gb_18_3, gb_18_4, gb_23_1, gb_23_2, gb_23_3, gb_23_5, s_has, if_b2, f1, ld_i, st_i, la_i, sl_i, nI_add, pk_mul, pk_sub, ng_add, neg_neg_n, nlt, nle, neq, ng_lt, gn_lt, gg_lt, ng_le, gn_le, gg_le, ng_eq, gn_eq, gg_eq, dv_i, if_pos, if_neg, ite_tt, ite_ff, if_b2, if_b2n, l_0, l_1, l_2, l_3, l_4, l_5, l_6, l_7, l_8, l_9, l_10, l_11, l_12, l_13, l_16, l_20, l_24, l_30, l_32, l_33, l_38, l_42, l_43, l_45, l_47, l_48, l_50, l_57, l_60, l_61, l_62, l_96, l_97, l_99, l_100, l_102, l_105, l_110, l_121, l_122, l_124, l_128, l_200, l_255, l_270, l_350, l_360, l_400, l_440, l_490, l_500, l_999, l_1000, l_9999, l_10000, l_99999, l_100000, l_1000000, l_1000000001, l_1000000002, l_1000000003, l_1000000005, l_1000000011, l_1000000012, l_1000000013, l_1000000014, a1, a4, c6, e1, ea]
      exact X (nI 0)
    · unfold f_X10_workedOf f_X10_figureAt OkM
      simp (maxSteps := 1000000) (disch := omega) only [vv_e, mm_e, jn_e, bd_e, bd_i, e2_0_0, e2_0_1, e2_0_2, e2_0_4, e2_0_5, e2_0_6, e2_0_7, e2_0_8, e2_0_9, e2_0_10, e2_0_11, e2_0_12, e2_0_24, e2_0_25, e2_0_28, e2_0_29, e2_0_30, e2_0_34, e2_0_35, e2_0_36, e2_0_38, ld_i, st_i, la_i, sl_i, nI_add, pk_mul, pk_sub, ng_add, neg_neg_n, nlt, nle, neq, ng_lt, gn_lt, gg_lt, ng_le, gn_le, gg_le, ng_eq, gn_eq, gg_eq, dv_i, if_pos, if_neg, ite_tt, ite_ff, if_b2, if_b2n, l_0, l_1, l_2, l_3, l_4, l_5, l_6, l_7, l_8, l_9, l_10, l_11, l_12, l_13, l_16, l_20, l_24, l_30, l_32, l_33, l_38, l_42, l_43, l_45, l_47, l_48, l_50, l_57, l_60, l_61, l_62, l_96, l_97, l_99, l_100, l_102, l_105, l_110, l_121, l_122, l_124, l_128, l_200, l_255, l_270, l_350, l_360, l_400, l_440, l_490, l_500, l_999, l_1000, l_9999, l_10000, l_99999, l_100000, l_1000000, l_1000000001, l_1000000002, l_1000000003, l_1000000005, l_1000000011, l_1000000012, l_1000000013, l_1000000014]
      refine lo2 (fun n x y N' => ∃ k, k + n = f ∧ x = nI (cntE (fun k => N 1 (30 + 6 * k)) (nI t') k) ∧ y = nI k ∧ N' = N) ?_ fuel f _ _ N (by unfold fuel; omega) ⟨0, by omega, rfl, rfl, rfl⟩
      rintro n rc _ _ N' ⟨k, hk, rfl, rfl, hM⟩ ih
      rw [hM]
      by_cases hkf : k = f
      · rw [hkf, hah]
        simp (maxSteps := 1000000) (disch := omega) only [vv_e, mm_e, jn_e, bd_e, bd_i, ld_i, st_i, la_i, sl_i, nI_add, pk_mul, pk_sub, ng_add, neg_neg_n, nlt, nle, neq, ng_lt, gn_lt, gg_lt, ng_le, gn_le, gg_le, ng_eq, gn_eq, gg_eq, dv_i, if_pos, if_neg, ite_tt, ite_ff, if_b2, if_b2n, l_0, l_1, l_2, l_3, l_4, l_5, l_6, l_7, l_8, l_9, l_10, l_11, l_12, l_13, l_16, l_20, l_24, l_30, l_32, l_33, l_38, l_42, l_43, l_45, l_47, l_48, l_50, l_57, l_60, l_61, l_62, l_96, l_97, l_99, l_100, l_102, l_105, l_110, l_121, l_122, l_124, l_128, l_200, l_255, l_270, l_350, l_360, l_400, l_440, l_490, l_500, l_999, l_1000, l_9999, l_10000, l_99999, l_100000, l_1000000, l_1000000001, l_1000000002, l_1000000003, l_1000000005, l_1000000011, l_1000000012, l_1000000013, l_1000000014, up_a, up_k, up_same, c1, c4, c5, c6, hcnt]
        exact Y (nI 0)
      · simp (maxSteps := 1000000) (disch := omega) only [vv_e, mm_e, jn_e, bd_e, bd_i, ld_i, st_i, la_i, sl_i, nI_add, pk_mul, pk_sub, ng_add, neg_neg_n, nlt, nle, neq, ng_lt, gn_lt, gg_lt, ng_le, gn_le, gg_le, ng_eq, gn_eq, gg_eq, dv_i, if_pos, if_neg, ite_tt, ite_ff, if_b2, if_b2n, l_0, l_1, l_2, l_3, l_4, l_5, l_6, l_7, l_8, l_9, l_10, l_11, l_12, l_13, l_16, l_20, l_24, l_30, l_32, l_33, l_38, l_42, l_43, l_45, l_47, l_48, l_50, l_57, l_60, l_61, l_62, l_96, l_97, l_99, l_100, l_102, l_105, l_110, l_121, l_122, l_124, l_128, l_200, l_255, l_270, l_350, l_360, l_400, l_440, l_490, l_500, l_999, l_1000, l_9999, l_10000, l_99999, l_100000, l_1000000, l_1000000001, l_1000000002, l_1000000003, l_1000000005, l_1000000011, l_1000000012, l_1000000013, l_1000000014, c1, Nat.add_zero]
        by_cases he : N 1 (30 + 6 * k) = nI t'
        · rw [if_pos he]
          exact ih (n - 1) _ _ _ (by omega) ⟨k + 1, by omega, by rw [cntE, if_pos he], rfl, rfl⟩
        · rw [if_neg he]
          exact ih (n - 1) _ _ _ (by omega) ⟨k + 1, by omega, by rw [cntE, if_neg he]; rfl, rfl, rfl⟩
  · obtain ⟨t2', k2, v2, p2, w1, w2, w3, w4, w5, b1, b9, b3, b4, d1, d2, d3, d4, d5, d6⟩ := hF.fig (show f' < nF by omega)
    refine ⟨EV (N 1) tt (fun u => if u = nI 110 then nI p else if u = nI 102 then nI v2 else nI ah), ?_, ?_⟩
    · unfold f_X6_worked
      simp (maxSteps := 1000000) (disch := omega) only [vv_e, mm_e, jn_e, bd_e, bd_i, gb_0_0, gb_0_1, gb_0_2, gb_0_3, gb_0_4, gb_0_5, gb_0_9, gb_1_1, gb_1_3, gb_1_4, gb_1_5, gb_1_6, gb_1_7, gb_8_1, gb_8_2, gb_8_3, gb_8_4, gb_8_5, gb_8_6, gb_15_0, gb_15_1, gb_18_0, gb_18_2, gb_18_3, gb_18_4, gb_23_1, gb_23_2, gb_23_3, gb_23_5, s_has, if_b2, f1, ld_i, st_i, la_i, sl_i, nI_add, pk_mul, pk_sub, ng_add, neg_neg_n, nlt, nle, neq, ng_lt, gn_lt, gg_lt, ng_le, gn_le, gg_le, ng_eq, gn_eq, gg_eq, dv_i, if_pos, if_neg, ite_tt, ite_ff, if_b2, if_b2n, l_0, l_1, l_2, l_3, l_4, l_5, l_6, l_7, l_8, l_9, l_10, l_11, l_12, l_13, l_16, l_20, l_24, l_30, l_32, l_33, l_38, l_42, l_43, l_45, l_47, l_48, l_50, l_57, l_60, l_61, l_62, l_96, l_97, l_99, l_100, l_102, l_105, l_110, l_121, l_122, l_124, l_128, l_200, l_255, l_270, l_350, l_360, l_400, l_440, l_490, l_500, l_999, l_1000, l_9999, l_10000, l_99999, l_100000, l_1000000, l_1000000001, l_1000000002, l_1000000003, l_1000000005, l_1000000011, l_1000000012, l_1000000013, l_1000000014, a1, a4, c6, e1, ea, b3]
      exact X (nI v2)
    · unfold f_X10_workedOf f_X10_figureAt OkM
      simp (maxSteps := 1000000) (disch := omega) only [vv_e, mm_e, jn_e, bd_e, bd_i, e2_0_0, e2_0_1, e2_0_2, e2_0_4, e2_0_5, e2_0_6, e2_0_7, e2_0_8, e2_0_9, e2_0_10, e2_0_11, e2_0_12, e2_0_24, e2_0_25, e2_0_28, e2_0_29, e2_0_30, e2_0_34, e2_0_35, e2_0_36, e2_0_38, ld_i, st_i, la_i, sl_i, nI_add, pk_mul, pk_sub, ng_add, neg_neg_n, nlt, nle, neq, ng_lt, gn_lt, gg_lt, ng_le, gn_le, gg_le, ng_eq, gn_eq, gg_eq, dv_i, if_pos, if_neg, ite_tt, ite_ff, if_b2, if_b2n, l_0, l_1, l_2, l_3, l_4, l_5, l_6, l_7, l_8, l_9, l_10, l_11, l_12, l_13, l_16, l_20, l_24, l_30, l_32, l_33, l_38, l_42, l_43, l_45, l_47, l_48, l_50, l_57, l_60, l_61, l_62, l_96, l_97, l_99, l_100, l_102, l_105, l_110, l_121, l_122, l_124, l_128, l_200, l_255, l_270, l_350, l_360, l_400, l_440, l_490, l_500, l_999, l_1000, l_9999, l_10000, l_99999, l_100000, l_1000000, l_1000000001, l_1000000002, l_1000000003, l_1000000005, l_1000000011, l_1000000012, l_1000000013, l_1000000014]
      refine lo2 (fun n x y N' => ∃ k, k + n = f ∧ x = nI (cntE (fun k => N 1 (30 + 6 * k)) (nI t') k) ∧ y = nI k ∧ N' = N) ?_ fuel f _ _ N (by unfold fuel; omega) ⟨0, by omega, rfl, rfl, rfl⟩
      rintro n rc _ _ N' ⟨k, hk, rfl, rfl, hM⟩ ih
      rw [hM]
      by_cases hkf : k = f
      · rw [hkf, hah]
        simp (maxSteps := 1000000) (disch := omega) only [vv_e, mm_e, jn_e, bd_e, bd_i, ld_i, st_i, la_i, sl_i, nI_add, pk_mul, pk_sub, ng_add, neg_neg_n, nlt, nle, neq, ng_lt, gn_lt, gg_lt, ng_le, gn_le, gg_le, ng_eq, gn_eq, gg_eq, dv_i, if_pos, if_neg, ite_tt, ite_ff, if_b2, if_b2n, l_0, l_1, l_2, l_3, l_4, l_5, l_6, l_7, l_8, l_9, l_10, l_11, l_12, l_13, l_16, l_20, l_24, l_30, l_32, l_33, l_38, l_42, l_43, l_45, l_47, l_48, l_50, l_57, l_60, l_61, l_62, l_96, l_97, l_99, l_100, l_102, l_105, l_110, l_121, l_122, l_124, l_128, l_200, l_255, l_270, l_350, l_360, l_400, l_440, l_490, l_500, l_999, l_1000, l_9999, l_10000, l_99999, l_100000, l_1000000, l_1000000001, l_1000000002, l_1000000003, l_1000000005, l_1000000011, l_1000000012, l_1000000013, l_1000000014, up_a, up_k, up_same, c1, c4, c5, c6, hcnt, d3]
        exact Y (nI v2)
      · simp (maxSteps := 1000000) (disch := omega) only [vv_e, mm_e, jn_e, bd_e, bd_i, ld_i, st_i, la_i, sl_i, nI_add, pk_mul, pk_sub, ng_add, neg_neg_n, nlt, nle, neq, ng_lt, gn_lt, gg_lt, ng_le, gn_le, gg_le, ng_eq, gn_eq, gg_eq, dv_i, if_pos, if_neg, ite_tt, ite_ff, if_b2, if_b2n, l_0, l_1, l_2, l_3, l_4, l_5, l_6, l_7, l_8, l_9, l_10, l_11, l_12, l_13, l_16, l_20, l_24, l_30, l_32, l_33, l_38, l_42, l_43, l_45, l_47, l_48, l_50, l_57, l_60, l_61, l_62, l_96, l_97, l_99, l_100, l_102, l_105, l_110, l_121, l_122, l_124, l_128, l_200, l_255, l_270, l_350, l_360, l_400, l_440, l_490, l_500, l_999, l_1000, l_9999, l_10000, l_99999, l_100000, l_1000000, l_1000000001, l_1000000002, l_1000000003, l_1000000005, l_1000000011, l_1000000012, l_1000000013, l_1000000014, c1, Nat.add_zero]
        by_cases he : N 1 (30 + 6 * k) = nI t'
        · rw [if_pos he]
          exact ih (n - 1) _ _ _ (by omega) ⟨k + 1, by omega, by rw [cntE, if_pos he], rfl, rfl⟩
        · rw [if_neg he]
          exact ih (n - 1) _ _ _ (by omega) ⟨k + 1, by omega, by rw [cntE, if_neg he]; rfl, rfl, rfl⟩
theorem worked_det (hb : b = 1 ∨ b = 31) (h : RS nT nF nX nC nE nL nS M b (N 1)) {f t tt : Nat} (hf : f < nF) (hT' : M (b + 3) f = nI t) (htn : t < 12) (hC : CT (N 1) (nI t) = some tt) : ∃ v, (∀ M', Ec M M' → OkC M' v (f_X6_worked b (nI f) M')) ∧ ∀ N', Em N N' → OkM N' v (f_X10_workedOf 0 (nI f) N') := by
  obtain ⟨v, -, a, c⟩ := det (M := M) (N := N) (P := fun _ => True) (x := fun M' => f_X6_worked b (nI f) M') (y := fun N' => f_X10_workedOf 0 (nI f) N') (fun M' N' e1 e2 => by
    obtain ⟨s, x, y⟩ := worked_eq (N := N') (tt := tt) hb (by rw [e2.1 1 (by omega)]; exact h.ec hb e1) hf (by rw [e1 (b + 3) (by omega) (by omega) (by omega) (by omega) (by omega) (by omega)]; exact hT') htn (by rw [e2.1 1 (by omega)]; exact hC)
    exact ⟨s, trivial, x, y⟩)
  exact ⟨v, a, c⟩
end
def cst4 (a b : Nat) : Nat := (if a % 10 = b % 10 then 0 else 1) + (if a / 10 % 10 = b / 10 % 10 then 0 else 1) + (if a / 100 % 10 = b / 100 % 10 then 0 else 1) + (if a / 1000 % 10 = b / 1000 % 10 then 0 else 1)
theorem cuts1 : cutsF 1 = nI 1000 := rfl
theorem cuts2 : cutsF 2 = nI 100 := rfl
theorem cuts3 : cutsF 3 = nI 10 := rfl
theorem cuts4 : cutsF 4 = nI 1 := rfl
theorem x_unlike (a c : Nat) (ha : a < 10000) (hc : c < 10000) (M : Mem) : f_X6_unlikeDigits (nI a) (nI c) M = some (nI (cst4 a c), M) := by
  unfold f_X6_unlikeDigits
  refine it2_fu (fun n => ?_)
  simp only [it2_s]
  simp (maxSteps := 1000000) (disch := omega) only [vv_e, mm_e, jn_e, bd_e, bd_i, ld_i, st_i, la_i, sl_i, nI_add, pk_mul, pk_sub, ng_add, neg_neg_n, nlt, nle, neq, ng_lt, gn_lt, gg_lt, ng_le, gn_le, gg_le, ng_eq, gn_eq, gg_eq, dv_i, if_pos, if_neg, ite_tt, ite_ff, if_b2, if_b2n, l_0, l_1, l_2, l_3, l_4, l_5, l_6, l_7, l_8, l_9, l_10, l_11, l_12, l_13, l_16, l_20, l_24, l_30, l_32, l_33, l_38, l_42, l_43, l_45, l_47, l_48, l_50, l_57, l_60, l_61, l_62, l_96, l_97, l_99, l_100, l_102, l_105, l_110, l_121, l_122, l_124, l_128, l_200, l_255, l_270, l_350, l_360, l_400, l_440, l_490, l_500, l_999, l_1000, l_9999, l_10000, l_99999, l_100000, l_1000000, l_1000000001, l_1000000002, l_1000000003, l_1000000005, l_1000000011, l_1000000012, l_1000000013, l_1000000014, cuts1, cuts2, cuts3, cuts4, pk_div, jr_n, Nat.reduceAdd, Nat.div_one]
  unfold cst4
  by_cases h1 : a / 1000 % 10 = c / 1000 % 10 <;> by_cases h2 : a / 100 % 10 = c / 100 % 10 <;> by_cases h3 : a / 10 % 10 = c / 10 % 10 <;> by_cases h4 : a % 10 = c % 10 <;> simp only [h1, h2, h3, h4, if_true, if_false] <;> rfl
theorem y_unlike (a c : Nat) (ha : a < 10000) (hc : c < 10000) (M : Mem) : f_X10_unlike (nI c) (nI a) M = some (nI (cst4 a c), M) := by
  unfold f_X10_unlike
  refine it4_fu (fun n => ?_)
  simp only [it4_succ]
  simp (maxSteps := 1000000) (disch := omega) only [vv_e, mm_e, jn_e, bd_e, bd_i, ld_i, st_i, la_i, sl_i, nI_add, pk_mul, pk_sub, ng_add, neg_neg_n, nlt, nle, neq, ng_lt, gn_lt, gg_lt, ng_le, gn_le, gg_le, ng_eq, gn_eq, gg_eq, dv_i, if_pos, if_neg, ite_tt, ite_ff, if_b2, if_b2n, l_0, l_1, l_2, l_3, l_4, l_5, l_6, l_7, l_8, l_9, l_10, l_11, l_12, l_13, l_16, l_20, l_24, l_30, l_32, l_33, l_38, l_42, l_43, l_45, l_47, l_48, l_50, l_57, l_60, l_61, l_62, l_96, l_97, l_99, l_100, l_102, l_105, l_110, l_121, l_122, l_124, l_128, l_200, l_255, l_270, l_350, l_360, l_400, l_440, l_490, l_500, l_999, l_1000, l_9999, l_10000, l_99999, l_100000, l_1000000, l_1000000001, l_1000000002, l_1000000003, l_1000000005, l_1000000011, l_1000000012, l_1000000013, l_1000000014, pk_div, jr_n, Nat.reduceAdd, Nat.div_div_eq_div_mul, Nat.reduceMul]
  unfold cst4
  by_cases h1 : a / 1000 % 10 = c / 1000 % 10 <;> by_cases h2 : a / 100 % 10 = c / 100 % 10 <;> by_cases h3 : a / 10 % 10 = c / 10 % 10 <;> by_cases h4 : a % 10 = c % 10 <;> simp only [h1, h2, h3, h4, eq_comm (a := c % 10), eq_comm (a := c / 10 % 10), eq_comm (a := c / 100 % 10), eq_comm (a := c / 1000 % 10), if_true, if_false] <;> rfl
