theorem or_0 (x : Int32) : x ||| nI 0 = x := Int32.or_zero
section
variable {nT nF nX nC nE nL nS : Nat} {M N : Mem}
theorem op_odd : ∀ (M N : Mem), Inv M N → Same (f_X9_odd 0 M) (f_X10_odd 0 N) := by
  intro M N h
  obtain ⟨nT, nF, nX, nC, nE, nL, nS, hS, hT, hF, hX, hL, hC, hR, hD, hN, hO, hZ⟩ := h.st
  obtain ⟨f1, f2, f3, f4⟩ := id hF
  have x3 : nX ≤ 14 := hX.2.2.1
  have e2 := y_cnt hX (nI 13)
  unfold f_X9_odd f_X10_odd f_X6_isOdd
  simp only [vv_e, mm_e, jn_e, bd_e, bd_i, e1_0_0, e1_0_1, e1_0_3, e1_0_4, e1_0_6, e1_0_7, e1_1_0, e1_1_1, e1_1_2, e1_1_3, e1_1_4, e1_1_5, e1_1_9, e1_2_1, e1_2_3, e1_2_4, e1_2_5, e1_2_6, e1_2_7, e1_9_1, e1_9_2, e1_9_3, e1_9_4, e1_9_5, e1_9_6, e1_16_0, e1_16_1, e1_19_0, e1_19_2, e1_19_3, e1_19_4, e1_24_1, e1_24_2, e1_24_3, e1_24_5, e1_61_0, e1_61_6, e2_0_0, e2_0_1, e2_0_2, e2_0_4, e2_0_5, e2_0_6, e2_0_7, e2_0_8, e2_0_9, e2_0_10, e2_0_11, e2_0_12, e2_0_24, e2_0_25, e2_0_28, e2_0_29, e2_0_30, e2_0_34, e2_0_35, e2_0_36, e2_0_38, l_13, e2]
  refine lk22 (fun n v d M' w e N' => ∃ k, k + n = 10 ∧ d = nI k ∧ e = nI k ∧ w = v ∧ Ec M M' ∧ Em N N') ?_ fuel fuel 10 _ _ M _ _ N (by decide) (by decide) ⟨0, by omega, rfl, rfl, rfl, Ec.rfl', Em.rfl'⟩
  rintro n rc rd v d M' w e N' ⟨k, hk, rfl, rfl, rfl, E1, E2⟩ ih
  have h' := h.ee E1 E2
  by_cases hk10 : k = 10
  · subst hk10
    simp (maxSteps := 1000000) (disch := omega) only [ld_i, st_i, la_i, sl_i, nI_add, pk_mul, pk_sub, ng_add, neg_neg_n, nlt, nle, neq, ng_lt, gn_lt, gg_lt, ng_le, gn_le, gg_le, ng_eq, gn_eq, gg_eq, dv_i, if_pos, if_neg, ite_tt, ite_ff, if_b2, if_b2n, l_0, l_1, l_2, l_3, l_4, l_5, l_6, l_7, l_8, l_9, l_10, l_11, l_12, l_13, l_16, l_20, l_24, l_30, l_32, l_33, l_38, l_42, l_43, l_45, l_47, l_48, l_50, l_57, l_60, l_61, l_62, l_96, l_97, l_99, l_100, l_102, l_105, l_110, l_121, l_122, l_124, l_128, l_200, l_255, l_270, l_350, l_360, l_400, l_440, l_490, l_500, l_999, l_1000, l_9999, l_10000, l_99999, l_100000, l_1000000, l_1000000001, l_1000000002, l_1000000003, l_1000000005, l_1000000011, l_1000000012, l_1000000013, l_1000000014]
    exact Same.mk h'
  have hN1 : N' 1 = N 1 := E2.1 1 (by omega)
  have m2 : M' 2 2 = nI nF := by rw [E1 2 (by omega) (by omega) (by omega) (by omega) (by omega) (by omega)]; exact f1
  have m6 : M' 6 = M 6 := E1 6 (by omega) (by omega) (by omega) (by omega) (by omega) (by omega)
  have ew := x_withLast nF (nI k) M' m2 f3
  rw [m6] at ew
  have ed : ∀ N2 : Mem, N2 1 = N 1 → f_X10_digitOf 0 (nI k) N2 = some (nI (cnt (M 6) (nI k) nF), N2) := fun N2 q => y_digitOf nF (nI k) N2 (M 6) (by rw [q]; exact f2) f3 (fun f hf => by rw [q]; exact (f4 f hf).1.2.2.1)
  generalize cnt (M 6) (nI k) nF = c at ew ed
  have hS' : RS nT nF nX nC nE nL nS M' 1 (N' 1) := by rw [hN1]; exact hS.ec (Or.inl rfl) E1
  have hX' : RX nX (M' 9 0) (M' 10) (M' 11) (M' 12) (M' 13) (M' 14) (N' 1) := hS'.2.2.1
  have e1 := x_lat (b := 1) (Or.inl rfl) hX' 2 (nI 0) (nI 13) (Or.inr (Or.inr ⟨rfl, rfl⟩))
  simp only [Nat.reduceAdd] at e1
  have n11 : N' 1 1 = nI nF := by rw [hN1]; exact f2
  have ed1 := ed N' hN1
  have ed2 := ed (up (up (up N' 13 99 (nI c)) 13 100 (nI k)) 13 97 (nI nF)) hN1
  have EE : Em N (up (up (up N' 13 99 (nI c)) 13 100 (nI k)) 13 97 (nI nF)) := ((E2.u (by omega)).u (by omega)).u (by omega)
  cases hCT : CT (N 1) (nI 13) with
  | none =>
    rw [hN1, hCT] at e1
    simp (maxSteps := 1000000) (disch := omega) only [vv_e, mm_e, jn_e, bd_e, bd_i, e1_0_0, e1_0_1, e1_0_3, e1_0_4, e1_0_6, e1_0_7, e1_1_0, e1_1_1, e1_1_2, e1_1_3, e1_1_4, e1_1_5, e1_1_9, e1_2_1, e1_2_3, e1_2_4, e1_2_5, e1_2_6, e1_2_7, e1_9_1, e1_9_2, e1_9_3, e1_9_4, e1_9_5, e1_9_6, e1_16_0, e1_16_1, e1_19_0, e1_19_2, e1_19_3, e1_19_4, e1_24_1, e1_24_2, e1_24_3, e1_24_5, e1_61_0, e1_61_6, ld_i, st_i, la_i, sl_i, nI_add, pk_mul, pk_sub, ng_add, neg_neg_n, nlt, nle, neq, ng_lt, gn_lt, gg_lt, ng_le, gn_le, gg_le, ng_eq, gn_eq, gg_eq, dv_i, if_pos, if_neg, ite_tt, ite_ff, if_b2, if_b2n, l_0, l_1, l_2, l_3, l_4, l_5, l_6, l_7, l_8, l_9, l_10, l_11, l_12, l_13, l_16, l_20, l_24, l_30, l_32, l_33, l_38, l_42, l_43, l_45, l_47, l_48, l_50, l_57, l_60, l_61, l_62, l_96, l_97, l_99, l_100, l_102, l_105, l_110, l_121, l_122, l_124, l_128, l_200, l_255, l_270, l_350, l_360, l_400, l_440, l_490, l_500, l_999, l_1000, l_9999, l_10000, l_99999, l_100000, l_1000000, l_1000000001, l_1000000002, l_1000000003, l_1000000005, l_1000000011, l_1000000012, l_1000000013, l_1000000014, up_a, up_k, up_same, ew, e1, orN_n', orM_n', m2, n11, ed1, ed2, pk_div, or_0, hCT]
    by_cases hc : nI (nF / 3) < nI c
    · simp only [if_pos hc, or_0, show ¬ nI 1 = nI 0 by decide, if_false]
      exact ih (n - 1) _ _ _ _ _ _ (by omega) ⟨k + 1, by omega, rfl, rfl, rfl, E1, EE⟩
    · simp only [if_neg hc, or_0, if_true]
      exact ih (n - 1) _ _ _ _ _ _ (by omega) ⟨k + 1, by omega, rfl, rfl, rfl, E1, EE⟩
  | some t =>
    rw [hN1, hCT] at e1
    obtain ⟨ht, hg⟩ := hX.ct_s hCT
    have hk2 := hX'.key2 ht (by rw [hN1]; exact hg)
    simp (maxSteps := 1000000) (disch := omega) only [vv_e, mm_e, jn_e, bd_e, bd_i, bd_b, e1_0_0, e1_0_1, e1_0_3, e1_0_4, e1_0_6, e1_0_7, e1_1_0, e1_1_1, e1_1_2, e1_1_3, e1_1_4, e1_1_5, e1_1_9, e1_2_1, e1_2_3, e1_2_4, e1_2_5, e1_2_6, e1_2_7, e1_9_1, e1_9_2, e1_9_3, e1_9_4, e1_9_5, e1_9_6, e1_16_0, e1_16_1, e1_19_0, e1_19_2, e1_19_3, e1_19_4, e1_24_1, e1_24_2, e1_24_3, e1_24_5, e1_61_0, e1_61_6, ld_i, st_i, la_i, sl_i, nI_add, pk_mul, pk_sub, ng_add, neg_neg_n, nlt, nle, neq, ng_lt, gn_lt, gg_lt, ng_le, gn_le, gg_le, ng_eq, gn_eq, gg_eq, dv_i, if_pos, if_neg, ite_tt, ite_ff, if_b2, if_b2n, l_0, l_1, l_2, l_3, l_4, l_5, l_6, l_7, l_8, l_9, l_10, l_11, l_12, l_13, l_16, l_20, l_24, l_30, l_32, l_33, l_38, l_42, l_43, l_45, l_47, l_48, l_50, l_57, l_60, l_61, l_62, l_96, l_97, l_99, l_100, l_102, l_105, l_110, l_121, l_122, l_124, l_128, l_200, l_255, l_270, l_350, l_360, l_400, l_440, l_490, l_500, l_999, l_1000, l_9999, l_10000, l_99999, l_100000, l_1000000, l_1000000001, l_1000000002, l_1000000003, l_1000000005, l_1000000011, l_1000000012, l_1000000013, l_1000000014, up_a, up_k, up_same, ew, e1, orN_s, orM_s, m2, n11, ed1, hCT]
    have o1 := RX.giv (b := 1) (Or.inl rfl) hX' ht (fun u => if u = nI 99 then nI c else if u = nI 100 then nI k else nI nF) (nI c) (nI k) (nI nF) (fun i u hu => by
      rw [hk2] at hu
      rcases hu with ⟨q, -⟩ | ⟨q, -⟩ | ⟨-, ⟨rfl, rfl⟩ | ⟨rfl, rfl⟩ | ⟨rfl, rfl⟩⟩
      · exact absurd q (by decide)
      · exact absurd q (by decide)
      · exact Or.inl ⟨rfl, if_pos rfl⟩
      · exact Or.inr (Or.inl ⟨rfl, by rw [if_neg (by decide), if_pos rfl]⟩)
      · exact Or.inr (Or.inr ⟨rfl, by rw [if_neg (by decide), if_neg (by decide)]⟩))
    have o2 := RX.wrk (N := up (up (up N' 13 99 (nI c)) 13 100 (nI k)) 13 97 (nI nF)) hX' ht (fun u => if u = nI 99 then nI c else if u = nI 100 then nI k else nI nF) (fun i u hu => by
      rw [hk2] at hu
      rcases hu with ⟨q, -⟩ | ⟨q, -⟩ | ⟨-, ⟨rfl, rfl⟩ | ⟨rfl, rfl⟩ | ⟨rfl, rfl⟩⟩
      · exact absurd q (by decide)
      · exact absurd q (by decide)
      · rw [if_pos rfl, up_k _ _ _ _ _ (by decide), up_k _ _ _ _ _ (by decide), up_same]
      · rw [if_neg (by decide), if_pos rfl, up_k _ _ _ _ _ (by decide), up_same]
      · rw [if_neg (by decide), if_neg (by decide), up_same])
    refine Same.bv (h.ee E1 EE) o1 o2 (fun M2 N2 g1 g2 hh => ?_)
    show Same (if EV (N' 1) t _ = nI 0 then _ else _) (if EV (N' 1) t _ = nI 0 then _ else _)
    split
    · exact ih (n - 1) _ _ _ _ _ _ (by omega) ⟨k + 1, by omega, rfl, rfl, or_0 _, E1.trans g1, EE.trans g2⟩
    · exact ih (n - 1) _ _ _ _ _ _ (by omega) ⟨k + 1, by omega, rfl, rfl, rfl, E1.trans g1, EE.trans g2⟩
end
