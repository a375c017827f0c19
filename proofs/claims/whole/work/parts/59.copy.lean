theorem cy_i {β : Type} {M : Mem} {a0 s n0 a d n1 n : Nat} {k : Mem → Option β} (h1 : s + n ≤ n0) (h2 : d + n ≤ n1) (h3 : n0 < 2 ^ 31) (h4 : n1 < 2 ^ 31) : cy M a0 (nI s) n0 a (nI d) n1 (nI n) k = k (cpm M a0 s a d n) := by
  unfold cy
  rw [nI_clamp (by omega), nI_clamp (by omega), nI_clamp (by omega), if_neg]
  rintro (h | h | h | h | h)
  · exact nI_pos (by omega) h
  · exact nI_pos (by omega) h
  · exact nI_pos (by omega) h
  · omega
  · omega
theorem a64 {a m z : Nat} (ha : a < 2 ^ 31) (hm : m < 2 ^ 31) (hz : z < 2 ^ 31) : (Int32.toInt64 (nI z) < Int32.toInt64 (nI a) + Int32.toInt64 (nI m)) = (z < a + m) := by
  apply propext
  rw [Int64.lt_iff_toInt_lt, Int64.toInt_add, Int32.toInt_toInt64, Int32.toInt_toInt64, Int32.toInt_toInt64, nI_toInt ha, nI_toInt hm, nI_toInt hz, Int.bmod_eq_of_le (by omega) (by omega)]
  omega
theorem hasRow_t {o a m z : Nat} {M : Mem} (hz : M o 1 = nI z) (h : z ≤ 24) (hh : a + m ≤ z) : f_X4_hasRow o (nI a) (nI m) M = some (nI 1, M) := by
  unfold f_X4_hasRow
  simp (maxSteps := 1000000) (disch := omega) only [vv_e, mm_e, jn_e, bd_e, bd_i, ld_i, st_i, la_i, sl_i, nI_add, pk_mul, pk_sub, ng_add, neg_neg_n, nlt, nle, neq, ng_lt, gn_lt, gg_lt, ng_le, gn_le, gg_le, ng_eq, gn_eq, gg_eq, dv_i, if_pos, if_neg, ite_tt, ite_ff, if_b2, if_b2n, l_0, l_1, l_2, l_3, l_4, l_5, l_6, l_7, l_8, l_9, l_10, l_11, l_12, l_13, l_16, l_20, l_24, l_30, l_32, l_33, l_38, l_42, l_43, l_45, l_47, l_48, l_50, l_57, l_60, l_61, l_62, l_96, l_97, l_99, l_100, l_102, l_105, l_110, l_121, l_122, l_124, l_128, l_200, l_255, l_270, l_350, l_360, l_400, l_440, l_490, l_500, l_999, l_1000, l_9999, l_10000, l_99999, l_100000, l_1000000, l_1000000001, l_1000000002, l_1000000003, l_1000000005, l_1000000011, l_1000000012, l_1000000013, l_1000000014, hz]
theorem hasRow_f {o z : Nat} {p q : Int32} {M : Mem} (hz : M o 1 = nI z) (h : z ≤ 24) (hh : ¬ ∃ a m, a + m ≤ z ∧ p = nI a ∧ q = nI m) : f_X4_hasRow o p q M = some (nI 0, M) := by
  unfold f_X4_hasRow
  simp only [vv_e, mm_e, jn_e, bd_e, bd_i, l_0]
  by_cases n1 : p < nI 0
  · rw [if_pos n1]
  rw [if_neg n1]
  obtain ⟨a, ha, rfl⟩ := nI_of n1
  by_cases n2 : z < a
  · rw [hz, if_pos (nI_lt n2 ha)]
  rw [hz, if_neg (nI_nlt (by omega) (by omega))]
  by_cases n3 : q < nI 0
  · rw [if_pos n3]
  rw [if_neg n3]
  obtain ⟨m, hm, rfl⟩ := nI_of n3
  have : z < a + m := Nat.lt_of_not_le (fun w => hh ⟨a, m, w, rfl, rfl⟩)
  rw [pk_sub (by omega), if_pos (nI_lt (by omega) hm)]
theorem copy_end {M N : Mem} (h : Inv M N) {i k a c m : Nat} (hi : i < 4) (hk : k < 4) (ha : a + m ≤ 24) (hc : c + m ≤ 24) (a5 : ∀ j, j < 24 → N 6 (24 * i + j) = M (67 + 2 * i) j) (hK : RH (M (66 + 2 * k) 0) (M (66 + 2 * k) 1) (M (67 + 2 * k)) (N 4 k) (N 5 k) (N 6) k) :
    Same (some (nI m, cpm M (67 + 2 * i) a (67 + 2 * k) c m)) (it1 (fun rc16 (v15 : Int32) M => if v15 < nI m then ld M 6 (nI (24 * i + a) + v15) 96 fun x24 => st M 19 v15 24 x24 fun M => rc16 (v15 + nI 1) M else it1 (fun rc18 (v17 : Int32) M => if v17 < nI m then ld M 19 v17 24 fun x21 => st M 6 (nI (24 * k + c) + v17) 96 x21 fun M => rc18 (v17 + nI 1) M else some (nI m, M)) fuel (nI 0) M) fuel (nI 0) N) := by
  apply R2.same
  refine ro1 (fun n y N' => ∃ e, e + n = m ∧ y = nI e ∧ (∀ j, j < e → N' 19 j = N 6 (24 * i + a + j)) ∧ ∀ q, q ≠ 19 → N' q = N q) ?_ fuel m _ N (by show m < 5000; omega) ⟨0, by omega, rfl, fun j hj => absurd hj (Nat.not_lt_zero j), fun _ _ => rfl⟩
  rintro n rd _ N1 ⟨e, he, rfl, h19, hN1⟩ ih
  by_cases hem : e = m
  case neg =>
    simp (maxSteps := 1000000) (disch := omega) only [ld_i, st_i, la_i, sl_i, nI_add, pk_mul, pk_sub, ng_add, neg_neg_n, nlt, nle, neq, ng_lt, gn_lt, gg_lt, ng_le, gn_le, gg_le, ng_eq, gn_eq, gg_eq, dv_i, if_pos, if_neg, ite_tt, ite_ff, if_b2, if_b2n, l_0, l_1, l_2, l_3, l_4, l_5, l_6, l_7, l_8, l_9, l_10, l_11, l_12, l_13, l_16, l_20, l_24, l_30, l_32, l_33, l_38, l_42, l_43, l_45, l_47, l_48, l_50, l_57, l_60, l_61, l_62, l_96, l_97, l_99, l_100, l_102, l_105, l_110, l_121, l_122, l_124, l_128, l_200, l_255, l_270, l_350, l_360, l_400, l_440, l_490, l_500, l_999, l_1000, l_9999, l_10000, l_99999, l_100000, l_1000000, l_1000000001, l_1000000002, l_1000000003, l_1000000005, l_1000000011, l_1000000012, l_1000000013, l_1000000014]
    refine ih (n - 1) _ _ (by omega) ⟨e + 1, by omega, rfl, fun j hj => ?_, fun q hq => by rw [up_ne hq]; exact hN1 q hq⟩
    by_cases hje : j = e
    · subst hje
      rw [up_same, hN1 6 (by decide)]
    · rw [up_k _ _ _ _ _ hje]
      exact h19 j (by omega)
  subst hem
  rw [if_neg (nI_nlt (Nat.le_refl _) (by omega))]
  refine ro1 (fun n y N' => ∃ f, f + n = e ∧ y = nI f ∧ (∀ j, j < f → N' 6 (24 * k + c + j) = N 6 (24 * i + a + j)) ∧ (∀ j, j < 24 * k + c ∨ 24 * k + c + f ≤ j → N' 6 j = N 6 j) ∧ (∀ j, j < e → N' 19 j = N 6 (24 * i + a + j)) ∧ ∀ q, q ≠ 19 → q ≠ 6 → N' q = N q) ?_ fuel e _ N1 (by show e < 5000; omega) ⟨0, by omega, rfl, fun j hj => absurd hj (Nat.not_lt_zero j), fun j hj => by rw [hN1 6 (by decide)], h19, fun q h1 _ => hN1 q h1⟩
  rintro n2 rd2 _ N2 ⟨f, hf, rfl, g1, g2, g3, g4⟩ ih2
  by_cases hfe : f = e
  case neg =>
    simp (maxSteps := 1000000) (disch := omega) only [ld_i, st_i, la_i, sl_i, nI_add, pk_mul, pk_sub, ng_add, neg_neg_n, nlt, nle, neq, ng_lt, gn_lt, gg_lt, ng_le, gn_le, gg_le, ng_eq, gn_eq, gg_eq, dv_i, if_pos, if_neg, ite_tt, ite_ff, if_b2, if_b2n, l_0, l_1, l_2, l_3, l_4, l_5, l_6, l_7, l_8, l_9, l_10, l_11, l_12, l_13, l_16, l_20, l_24, l_30, l_32, l_33, l_38, l_42, l_43, l_45, l_47, l_48, l_50, l_57, l_60, l_61, l_62, l_96, l_97, l_99, l_100, l_102, l_105, l_110, l_121, l_122, l_124, l_128, l_200, l_255, l_270, l_350, l_360, l_400, l_440, l_490, l_500, l_999, l_1000, l_9999, l_10000, l_99999, l_100000, l_1000000, l_1000000001, l_1000000002, l_1000000003, l_1000000005, l_1000000011, l_1000000012, l_1000000013, l_1000000014]
    refine ih2 (n2 - 1) _ _ (by omega) ⟨f + 1, by omega, rfl, fun j hj => ?_, fun j hj => ?_, fun j hj => by rw [up_a _ _ _ _ _ _ (by decide)]; exact g3 j hj, fun q q1 q2 => by rw [up_ne q2]; exact g4 q q1 q2⟩
    · by_cases hjf : j = f
      · subst hjf
        rw [up_same]
        exact g3 j (by omega)
      · rw [up_k _ _ _ _ _ (by omega)]
        exact g1 j (by omega)
    · rw [up_k _ _ _ _ _ (by omega)]
      exact g2 j (by omega)
  subst hfe
  rw [if_neg (nI_nlt (Nat.le_refl _) (by omega))]
  obtain ⟨b1, b2', b3, b4, b5⟩ := hK
  refine R2.mk (inv_sheet h (i := k) hk (fun q q1 q2 => cpm_ne q2) (fun q q1 q2 q3 q4 => g4 q q4 q3) (fun j hj => by rw [g4 4 (by decide) (by decide)]) (fun j hj => by rw [g4 5 (by decide) (by decide)]) (fun j hj => g2 j (by omega)) ?_)
  rw [cpm_ne (by omega), g4 4 (by decide) (by decide), g4 5 (by decide) (by decide)]
  refine ⟨b1, b2', b3, b4, fun j hj => ?_⟩
  rw [cpm_at]
  by_cases hr : c ≤ j ∧ j < c + f
  · rw [pk_cpy_in hr.1 hr.2, show 24 * k + j = 24 * k + c + (j - c) by omega, g1 (j - c) (by omega), show 24 * i + a + (j - c) = 24 * i + (a + (j - c)) by omega]
    exact a5 _ (by omega)
  · rw [pk_cpy_out (by omega), g2 _ (by omega)]
    exact b5 j hj
set_option maxHeartbeats 4000000 in
theorem op_copy : ∀ (p q s t u : Int32) (M N : Mem), Inv M N → Same (f_X9_copy 0 p q s t u M) (f_X10_copy 0 p q s t u N) := by
  intro p q s t u M N h
  unfold f_X9_copy f_X10_copy
  simp only [vv_e, mm_e, jn_e, bd_e, bd_i, e1_0_0, e1_0_1, e1_0_3, e1_0_4, e1_0_6, e1_0_7, e1_1_0, e1_1_1, e1_1_2, e1_1_3, e1_1_4, e1_1_5, e1_1_9, e1_2_1, e1_2_3, e1_2_4, e1_2_5, e1_2_6, e1_2_7, e1_9_1, e1_9_2, e1_9_3, e1_9_4, e1_9_5, e1_9_6, e1_16_0, e1_16_1, e1_19_0, e1_19_2, e1_19_3, e1_19_4, e1_24_1, e1_24_2, e1_24_3, e1_24_5, e1_61_0, e1_61_6, e2_0_0, e2_0_1, e2_0_2, e2_0_4, e2_0_5, e2_0_6, e2_0_7, e2_0_8, e2_0_9, e2_0_10, e2_0_11, e2_0_12, e2_0_24, e2_0_25, e2_0_28, e2_0_29, e2_0_30, e2_0_34, e2_0_35, e2_0_36, e2_0_38, s_isSheet, y_isSheet, if_b2]
  by_cases hp : 0 ≤ p ∧ p ≤ 3
  case neg =>
    rw [if_neg hp, if_neg hp]
    exact Same.mk h
  rw [if_pos hp, if_pos hp]
  by_cases hs : 0 ≤ s ∧ s ≤ 3
  case neg =>
    rw [if_neg hs, if_neg hs]
    exact Same.mk h
  rw [if_pos hs, if_pos hs]
  obtain ⟨i, hi, rfl⟩ := rgN (c := 3) (by decide) hp
  obtain ⟨k, hk, rfl⟩ := rgN (c := 3) (by decide) hs
  obtain ⟨gs1, gs2⟩ := g_sheet i (by omega)
  obtain ⟨hs1, hs2⟩ := g_sheet k (by omega)
  obtain ⟨a1, a2, a3, ⟨z, hz, a4⟩, a5⟩ := h.2.2.2.1 i (by omega)
  obtain ⟨b1, b2', b3, ⟨y, hy', b4⟩, b5⟩ := h.2.2.2.1 k (by omega)
  have b3' := b3
  rw [la_i (by omega) (by decide), la_i (by omega) (by decide), gs1, hs1, ld_i (by omega) (by decide), ld_i (by omega) (by decide), a1, b1]
  rcases a3 with a3 | a3 | a3
  · rw [a3, if_pos rfl, if_pos (by decide)]
    exact Same.mk h
  · rcases b3 with b3 | b3 | b3
    · rw [a3, b3, if_neg (show ¬ (0 : Int32) = -1 by decide), if_pos (show (-1 : Int32) = -1 from rfl), if_neg (show ¬ (0 : Int32) < 0 by decide), if_pos (show (-1 : Int32) < 0 by decide)]
      exact Same.mk h
    · simp only [ld_i (show i < 4 by omega) (show 4 < 2 ^ 31 by decide), ld_i (show k < 4 by omega) (show 4 < 2 ^ 31 by decide), a1, b1, a3, b3]
      rw [if_neg (show ¬ (0 : Int32) = -1 by decide), if_neg (show ¬ (0 : Int32) = -1 by decide), if_neg (show ¬ (0 : Int32) < 0 by decide), if_neg (show ¬ (0 : Int32) < 0 by decide), ite_tt, ite_tt]
      by_cases g1 : ∃ a m, a + m ≤ z ∧ q = nI a ∧ u = nI m
      case neg =>
        have hx := hasRow_f a4 (by omega) g1
        simp (maxSteps := 1000000) (disch := omega) only [vv_e, mm_e, jn_e, bd_e, bd_i, bd_e, if_pos, neq, l_0, l_1, l_2, l_3, l_4, l_5, l_6, l_7, l_8, l_9, l_10, l_11, l_12, l_13, l_16, l_20, l_24, l_30, l_32, l_33, l_38, l_42, l_43, l_45, l_47, l_48, l_50, l_57, l_60, l_61, l_62, l_96, l_97, l_99, l_100, l_102, l_105, l_110, l_121, l_122, l_124, l_128, l_200, l_255, l_270, l_350, l_360, l_400, l_440, l_490, l_500, l_999, l_1000, l_9999, l_10000, l_99999, l_100000, l_1000000, l_1000000001, l_1000000002, l_1000000003, l_1000000005, l_1000000011, l_1000000012, l_1000000013, l_1000000014, hx]
        by_cases n1 : q < nI 0
        · simp only [if_pos n1]; exact Same.mk h
        by_cases n2 : t < nI 0
        · simp only [if_neg n1, if_pos n2]; exact Same.mk h
        by_cases n3 : u < nI 0
        · simp only [if_neg n1, if_neg n2, if_pos n3]; exact Same.mk h
        obtain ⟨a, ha, rfl⟩ := nI_of n1
        obtain ⟨c, hc, rfl⟩ := nI_of n2
        obtain ⟨m, hm, rfl⟩ := nI_of n3
        have : z < a + m := Nat.lt_of_not_le (fun w => g1 ⟨a, m, w, rfl, rfl⟩)
        simp only [if_neg n1, if_neg n2, if_neg n3, a2, a4, b2', b4, lgc_gt', a64 ha hm (show z < 2 ^ 31 by omega), if_pos this]
        exact Same.mk h
      by_cases g2 : ∃ a m, a + m ≤ y ∧ t = nI a ∧ u = nI m
      case neg =>
        obtain ⟨a, m, g3, rfl, rfl⟩ := g1
        have hx := hasRow_t a4 (by omega) g3
        have hy := hasRow_f b4 (by omega) g2
        simp (maxSteps := 1000000) (disch := omega) only [vv_e, mm_e, jn_e, bd_e, bd_i, bd_e, if_pos, if_neg, neq, nlt, l_0, l_1, l_2, l_3, l_4, l_5, l_6, l_7, l_8, l_9, l_10, l_11, l_12, l_13, l_16, l_20, l_24, l_30, l_32, l_33, l_38, l_42, l_43, l_45, l_47, l_48, l_50, l_57, l_60, l_61, l_62, l_96, l_97, l_99, l_100, l_102, l_105, l_110, l_121, l_122, l_124, l_128, l_200, l_255, l_270, l_350, l_360, l_400, l_440, l_490, l_500, l_999, l_1000, l_9999, l_10000, l_99999, l_100000, l_1000000, l_1000000001, l_1000000002, l_1000000003, l_1000000005, l_1000000011, l_1000000012, l_1000000013, l_1000000014, hx, hy]
        by_cases n2 : t < nI 0
        · simp only [if_pos n2]; exact Same.mk h
        obtain ⟨c, hc, rfl⟩ := nI_of n2
        have : y < c + m := Nat.lt_of_not_le (fun w => g2 ⟨c, m, w, rfl, rfl⟩)
        simp only [if_neg n2, a2, a4, b2', b4, lgc_gt', a64 (show a < 2 ^ 31 by omega) (show m < 2 ^ 31 by omega) (show z < 2 ^ 31 by omega), a64 hc (show m < 2 ^ 31 by omega) (show y < 2 ^ 31 by omega), if_neg (show ¬ z < a + m by omega), if_pos this]
        exact Same.mk h
      obtain ⟨a, m, g3, rfl, rfl⟩ := g1
      obtain ⟨c, m', g4, rfl, g5⟩ := g2
      have : m = m' := (nI_eq (by omega) (by omega)).mp g5
      subst this
      have hx := hasRow_t a4 (by omega) g3
      have hy := hasRow_t b4 (by omega) g4
      simp (maxSteps := 1000000) (disch := omega) only [vv_e, mm_e, jn_e, bd_e, bd_i, ld_i, st_i, la_i, sl_i, nI_add, pk_mul, pk_sub, ng_add, neg_neg_n, nlt, nle, neq, ng_lt, gn_lt, gg_lt, ng_le, gn_le, gg_le, ng_eq, gn_eq, gg_eq, dv_i, if_pos, if_neg, ite_tt, ite_ff, if_b2, if_b2n, l_0, l_1, l_2, l_3, l_4, l_5, l_6, l_7, l_8, l_9, l_10, l_11, l_12, l_13, l_16, l_20, l_24, l_30, l_32, l_33, l_38, l_42, l_43, l_45, l_47, l_48, l_50, l_57, l_60, l_61, l_62, l_96, l_97, l_99, l_100, l_102, l_105, l_110, l_121, l_122, l_124, l_128, l_200, l_255, l_270, l_350, l_360, l_400, l_440, l_490, l_500, l_999, l_1000, l_9999, l_10000, l_99999, l_100000, l_1000000, l_1000000001, l_1000000002, l_1000000003, l_1000000005, l_1000000011, l_1000000012, l_1000000013, l_1000000014, hx, hy, gs2, hs2, cy_i, a2, a4, b2', b4, lgc_gt', a64]
      exact copy_end h (by omega) (by omega) (by omega) (by omega) a5 ⟨b1, b2', b3', ⟨y, hy', b4⟩, b5⟩
    · simp only [ld_i (show i < 4 by omega) (show 4 < 2 ^ 31 by decide), ld_i (show k < 4 by omega) (show 4 < 2 ^ 31 by decide), a1, b1, a3, b3]
      rw [if_neg (show ¬ (0 : Int32) = -1 by decide), if_neg (show ¬ (1 : Int32) = -1 by decide), if_neg (show ¬ (0 : Int32) < 0 by decide), if_neg (show ¬ (1 : Int32) < 0 by decide), if_neg (show ¬ (0 : Int32) = 1 by decide), if_neg (show ¬ (0 : Int32) = 1 by decide)]
      exact Same.mk h
  · rcases b3 with b3 | b3 | b3
    · rw [a3, b3, if_neg (show ¬ (1 : Int32) = -1 by decide), if_pos (show (-1 : Int32) = -1 from rfl), if_neg (show ¬ (1 : Int32) < 0 by decide), if_pos (show (-1 : Int32) < 0 by decide)]
      exact Same.mk h
    · simp only [ld_i (show i < 4 by omega) (show 4 < 2 ^ 31 by decide), ld_i (show k < 4 by omega) (show 4 < 2 ^ 31 by decide), a1, b1, a3, b3]
      rw [if_neg (show ¬ (1 : Int32) = -1 by decide), if_neg (show ¬ (0 : Int32) = -1 by decide), if_neg (show ¬ (1 : Int32) < 0 by decide), if_neg (show ¬ (0 : Int32) < 0 by decide), if_neg (show ¬ (1 : Int32) = 0 by decide), if_neg (show ¬ (1 : Int32) = 0 by decide)]
      exact Same.mk h
    · simp only [ld_i (show i < 4 by omega) (show 4 < 2 ^ 31 by decide), ld_i (show k < 4 by omega) (show 4 < 2 ^ 31 by decide), a1, b1, a3, b3]
      rw [if_neg (show ¬ (1 : Int32) = -1 by decide), if_neg (show ¬ (1 : Int32) = -1 by decide), if_neg (show ¬ (1 : Int32) < 0 by decide), if_neg (show ¬ (1 : Int32) < 0 by decide), ite_tt, ite_tt]
      by_cases g1 : ∃ a m, a + m ≤ z ∧ q = nI a ∧ u = nI m
      case neg =>
        have hx := hasRow_f a4 (by omega) g1
        simp (maxSteps := 1000000) (disch := omega) only [vv_e, mm_e, jn_e, bd_e, bd_i, bd_e, if_pos, neq, l_0, l_1, l_2, l_3, l_4, l_5, l_6, l_7, l_8, l_9, l_10, l_11, l_12, l_13, l_16, l_20, l_24, l_30, l_32, l_33, l_38, l_42, l_43, l_45, l_47, l_48, l_50, l_57, l_60, l_61, l_62, l_96, l_97, l_99, l_100, l_102, l_105, l_110, l_121, l_122, l_124, l_128, l_200, l_255, l_270, l_350, l_360, l_400, l_440, l_490, l_500, l_999, l_1000, l_9999, l_10000, l_99999, l_100000, l_1000000, l_1000000001, l_1000000002, l_1000000003, l_1000000005, l_1000000011, l_1000000012, l_1000000013, l_1000000014, hx]
        by_cases n1 : q < nI 0
        · simp only [if_pos n1]; exact Same.mk h
        by_cases n2 : t < nI 0
        · simp only [if_neg n1, if_pos n2]; exact Same.mk h
        by_cases n3 : u < nI 0
        · simp only [if_neg n1, if_neg n2, if_pos n3]; exact Same.mk h
        obtain ⟨a, ha, rfl⟩ := nI_of n1
        obtain ⟨c, hc, rfl⟩ := nI_of n2
        obtain ⟨m, hm, rfl⟩ := nI_of n3
        have : z < a + m := Nat.lt_of_not_le (fun w => g1 ⟨a, m, w, rfl, rfl⟩)
        simp only [if_neg n1, if_neg n2, if_neg n3, a2, a4, b2', b4, lgc_gt', a64 ha hm (show z < 2 ^ 31 by omega), if_pos this]
        exact Same.mk h
      by_cases g2 : ∃ a m, a + m ≤ y ∧ t = nI a ∧ u = nI m
      case neg =>
        obtain ⟨a, m, g3, rfl, rfl⟩ := g1
        have hx := hasRow_t a4 (by omega) g3
        have hy := hasRow_f b4 (by omega) g2
        simp (maxSteps := 1000000) (disch := omega) only [vv_e, mm_e, jn_e, bd_e, bd_i, bd_e, if_pos, if_neg, neq, nlt, l_0, l_1, l_2, l_3, l_4, l_5, l_6, l_7, l_8, l_9, l_10, l_11, l_12, l_13, l_16, l_20, l_24, l_30, l_32, l_33, l_38, l_42, l_43, l_45, l_47, l_48, l_50, l_57, l_60, l_61, l_62, l_96, l_97, l_99, l_100, l_102, l_105, l_110, l_121, l_122, l_124, l_128, l_200, l_255, l_270, l_350, l_360, l_400, l_440, l_490, l_500, l_999, l_1000, l_9999, l_10000, l_99999, l_100000, l_1000000, l_1000000001, l_1000000002, l_1000000003, l_1000000005, l_1000000011, l_1000000012, l_1000000013, l_1000000014, hx, hy]
        by_cases n2 : t < nI 0
        · simp only [if_pos n2]; exact Same.mk h
        obtain ⟨c, hc, rfl⟩ := nI_of n2
        have : y < c + m := Nat.lt_of_not_le (fun w => g2 ⟨c, m, w, rfl, rfl⟩)
        simp only [if_neg n2, a2, a4, b2', b4, lgc_gt', a64 (show a < 2 ^ 31 by omega) (show m < 2 ^ 31 by omega) (show z < 2 ^ 31 by omega), a64 hc (show m < 2 ^ 31 by omega) (show y < 2 ^ 31 by omega), if_neg (show ¬ z < a + m by omega), if_pos this]
        exact Same.mk h
      obtain ⟨a, m, g3, rfl, rfl⟩ := g1
      obtain ⟨c, m', g4, rfl, g5⟩ := g2
      have : m = m' := (nI_eq (by omega) (by omega)).mp g5
      subst this
      have hx := hasRow_t a4 (by omega) g3
      have hy := hasRow_t b4 (by omega) g4
      simp (maxSteps := 1000000) (disch := omega) only [vv_e, mm_e, jn_e, bd_e, bd_i, ld_i, st_i, la_i, sl_i, nI_add, pk_mul, pk_sub, ng_add, neg_neg_n, nlt, nle, neq, ng_lt, gn_lt, gg_lt, ng_le, gn_le, gg_le, ng_eq, gn_eq, gg_eq, dv_i, if_pos, if_neg, ite_tt, ite_ff, if_b2, if_b2n, l_0, l_1, l_2, l_3, l_4, l_5, l_6, l_7, l_8, l_9, l_10, l_11, l_12, l_13, l_16, l_20, l_24, l_30, l_32, l_33, l_38, l_42, l_43, l_45, l_47, l_48, l_50, l_57, l_60, l_61, l_62, l_96, l_97, l_99, l_100, l_102, l_105, l_110, l_121, l_122, l_124, l_128, l_200, l_255, l_270, l_350, l_360, l_400, l_440, l_490, l_500, l_999, l_1000, l_9999, l_10000, l_99999, l_100000, l_1000000, l_1000000001, l_1000000002, l_1000000003, l_1000000005, l_1000000011, l_1000000012, l_1000000013, l_1000000014, hx, hy, gs2, hs2, cy_i, a2, a4, b2', b4, lgc_gt', a64]
      exact copy_end h (by omega) (by omega) (by omega) (by omega) a5 ⟨b1, b2', b3', ⟨y, hy', b4⟩, b5⟩
