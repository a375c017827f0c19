theorem tk_fwd {n : Nat} {B : Nat → Nat} {M N : Mem} {a b s : Nat} (h : TK n B M N a b s) (ok : s = 1 ∨ (s = 2 ∧ b ≤ a + 4) ∨ s = 3) :
    ∃ r M' r' N' a' e q, f_X7_forward 61 M = some (r, M') ∧ f_X10_goesOn 0 N = some (r', N') ∧ FT M M' ∧ GT N N' ∧ TK n B M' N' a' e q ∧ a < a' := by
  obtain ⟨hC, hM, h8, h9, h10, h14, h15, hab, hbn, hc⟩ := h
  have fin : ∀ t, N 0 16 = nI t → t < 5 → s < 5 → a < b → ((s = 1 ∨ s = 2) ↔ (0 < b ∧ (t = 1 ∨ t = 2))) → ∃ r M' r' N' a' e q, f_X7_forward 61 M = some (r, M') ∧ f_X10_goesOn 0 N = some (r', N') ∧ FT M M' ∧ GT N N' ∧ TK n B M' N' a' e q ∧ a < a' := by
    intro t g1 g2 g3 g4 g5
    obtain ⟨r, M', r', N', a', e, q, f1, f2, f3, f4, f5, f6⟩ := fwd0 hC hM hbn h9 h10 g3 h15 g1 g2 g5
    exact ⟨r, M', r', N', a', e, q, f1, f2, f3, f4, f5, by omega⟩
  rcases hc with ⟨c, _⟩ | ⟨c, c1, _, c2, _⟩ | ⟨c, c1, _, c2, _⟩ | ⟨c, c1, _, _, c2, _⟩ | ⟨c, c1, _⟩ | ⟨c, _⟩
  · omega
  · exact fin 3 c2 (by omega) (by omega) (by omega) (by omega)
  · exact fin 1 c2 (by omega) (by omega) (by omega) (by omega)
  · exact fin 2 c2 (by omega) (by omega) (by omega) (by omega)
  · omega
  · omega
theorem TK.n {n : Nat} {B : Nat → Nat} {M N : Mem} {a b s : Nat} (h : TK n B M N a b s) : n ≤ 96 ∧ a ≤ b ∧ b ≤ n ∧ s < 5 ∧ (s = 0 → a = n) ∧ (s ≠ 0 → a < b) ∧ (s = 3 → b = a + 1 ∧ B a < 256) := by
  obtain ⟨hC, hM, h8, h9, h10, h14, h15, hab, hbn, hc⟩ := h
  have := hC.1
  rcases hc with ⟨c, c1, _⟩ | ⟨c, c1, c4, c2, _⟩ | ⟨c, c1, _, c2, _⟩ | ⟨c, c1, _, _, c2, _⟩ | ⟨c, c1, _⟩ | ⟨c, c1, _⟩ <;> refine ⟨by omega, by omega, by omega, by omega, fun _ => by omega, fun _ => by omega, fun _ => ⟨by omega, by omega⟩⟩
theorem c_sign {n : Nat} {B : Nat → Nat} {M N : Mem} {a b s : Nat} (h : TK n B M N a b s) : f_X7_signHere 61 M = some (if s = 3 then cbv (B a) else nI 0, M) := by
  have hn := h.n
  obtain ⟨hC, hM, h8, h9, h10, h14, h15, hab, hbn, hc⟩ := h
  have e1 := hC.2.1
  unfold f_X7_signHere
  by_cases h3 : s = 3
  · obtain ⟨hu, eb⟩ := hC.2.2 a (by omega)
    rw [if_pos h3]
    simp (maxSteps := 1000000) (disch := omega) only [vv_e, mm_e, jn_e, bd_e, bd_i, e1_0_0, e1_0_1, e1_0_3, e1_0_4, e1_0_6, e1_0_7, e1_1_0, e1_1_1, e1_1_2, e1_1_3, e1_1_4, e1_1_5, e1_1_9, e1_2_1, e1_2_3, e1_2_4, e1_2_5, e1_2_6, e1_2_7, e1_9_1, e1_9_2, e1_9_3, e1_9_4, e1_9_5, e1_9_6, e1_16_0, e1_16_1, e1_19_0, e1_19_2, e1_19_3, e1_19_4, e1_24_1, e1_24_2, e1_24_3, e1_24_5, e1_61_0, e1_61_6, ld_i, st_i, la_i, sl_i, nI_add, pk_mul, pk_sub, ng_add, neg_neg_n, nlt, nle, neq, ng_lt, gn_lt, gg_lt, ng_le, gn_le, gg_le, ng_eq, gn_eq, gg_eq, dv_i, if_pos, if_neg, ite_tt, ite_ff, if_b2, if_b2n, l_0, l_1, l_2, l_3, l_4, l_5, l_6, l_7, l_8, l_9, l_10, l_11, l_12, l_13, l_16, l_20, l_24, l_30, l_32, l_33, l_38, l_42, l_43, l_45, l_47, l_48, l_50, l_57, l_60, l_61, l_62, l_96, l_97, l_99, l_100, l_102, l_105, l_110, l_121, l_122, l_124, l_128, l_200, l_255, l_270, l_350, l_360, l_400, l_440, l_490, l_500, l_999, l_1000, l_9999, l_10000, l_99999, l_100000, l_1000000, l_1000000001, l_1000000002, l_1000000003, l_1000000005, l_1000000011, l_1000000012, l_1000000013, l_1000000014, h8, h10, e1, eb]
  · rw [if_neg h3]
    simp (maxSteps := 1000000) (disch := omega) only [vv_e, mm_e, jn_e, bd_e, bd_i, ld_i, st_i, la_i, sl_i, nI_add, pk_mul, pk_sub, ng_add, neg_neg_n, nlt, nle, neq, ng_lt, gn_lt, gg_lt, ng_le, gn_le, gg_le, ng_eq, gn_eq, gg_eq, dv_i, if_pos, if_neg, ite_tt, ite_ff, if_b2, if_b2n, l_0, l_1, l_2, l_3, l_4, l_5, l_6, l_7, l_8, l_9, l_10, l_11, l_12, l_13, l_16, l_20, l_24, l_30, l_32, l_33, l_38, l_42, l_43, l_45, l_47, l_48, l_50, l_57, l_60, l_61, l_62, l_96, l_97, l_99, l_100, l_102, l_105, l_110, l_121, l_122, l_124, l_128, l_200, l_255, l_270, l_350, l_360, l_400, l_440, l_490, l_500, l_999, l_1000, l_9999, l_10000, l_99999, l_100000, l_1000000, l_1000000001, l_1000000002, l_1000000003, l_1000000005, l_1000000011, l_1000000012, l_1000000013, l_1000000014, h10]
theorem m_sign {n : Nat} {B : Nat → Nat} {M N : Mem} {a b s : Nat} (h : TK n B M N a b s) (c : Nat) (hc' : c < 256) : f_X10_isSign 0 (nI c) N = some (b2 (s = 3 ∧ B a = c), N) := by
  have hn := h.n
  obtain ⟨hC, hM, h8, h9, h10, h14, h15, hab, hbn, hc⟩ := h
  unfold f_X10_isSign
  rcases hc with ⟨c0, c1, g⟩ | ⟨c0, c1, c2, g, g'⟩ | ⟨c0, c1, c2, g, _⟩ | ⟨c0, c1, _, _, g, _⟩ | ⟨c0, c1, g⟩ | ⟨c0, c1, g⟩
  · rw [show b2 (s = 3 ∧ B a = c) = nI 0 from if_neg (by omega)]
    simp (maxSteps := 1000000) (disch := omega) only [vv_e, mm_e, jn_e, bd_e, bd_i, ld_i, st_i, la_i, sl_i, nI_add, pk_mul, pk_sub, ng_add, neg_neg_n, nlt, nle, neq, ng_lt, gn_lt, gg_lt, ng_le, gn_le, gg_le, ng_eq, gn_eq, gg_eq, dv_i, if_pos, if_neg, ite_tt, ite_ff, if_b2, if_b2n, l_0, l_1, l_2, l_3, l_4, l_5, l_6, l_7, l_8, l_9, l_10, l_11, l_12, l_13, l_16, l_20, l_24, l_30, l_32, l_33, l_38, l_42, l_43, l_45, l_47, l_48, l_50, l_57, l_60, l_61, l_62, l_96, l_97, l_99, l_100, l_102, l_105, l_110, l_121, l_122, l_124, l_128, l_200, l_255, l_270, l_350, l_360, l_400, l_440, l_490, l_500, l_999, l_1000, l_9999, l_10000, l_99999, l_100000, l_1000000, l_1000000001, l_1000000002, l_1000000003, l_1000000005, l_1000000011, l_1000000012, l_1000000013, l_1000000014, g]
  · by_cases hx : B a = c
    · rw [show b2 (s = 3 ∧ B a = c) = nI 1 from if_pos ⟨c0, hx⟩]
      simp (maxSteps := 1000000) (disch := omega) only [vv_e, mm_e, jn_e, bd_e, bd_i, ld_i, st_i, la_i, sl_i, nI_add, pk_mul, pk_sub, ng_add, neg_neg_n, nlt, nle, neq, ng_lt, gn_lt, gg_lt, ng_le, gn_le, gg_le, ng_eq, gn_eq, gg_eq, dv_i, if_pos, if_neg, ite_tt, ite_ff, if_b2, if_b2n, l_0, l_1, l_2, l_3, l_4, l_5, l_6, l_7, l_8, l_9, l_10, l_11, l_12, l_13, l_16, l_20, l_24, l_30, l_32, l_33, l_38, l_42, l_43, l_45, l_47, l_48, l_50, l_57, l_60, l_61, l_62, l_96, l_97, l_99, l_100, l_102, l_105, l_110, l_121, l_122, l_124, l_128, l_200, l_255, l_270, l_350, l_360, l_400, l_440, l_490, l_500, l_999, l_1000, l_9999, l_10000, l_99999, l_100000, l_1000000, l_1000000001, l_1000000002, l_1000000003, l_1000000005, l_1000000011, l_1000000012, l_1000000013, l_1000000014, g, g']
    · rw [show b2 (s = 3 ∧ B a = c) = nI 0 from if_neg (by omega)]
      simp (maxSteps := 1000000) (disch := omega) only [vv_e, mm_e, jn_e, bd_e, bd_i, ld_i, st_i, la_i, sl_i, nI_add, pk_mul, pk_sub, ng_add, neg_neg_n, nlt, nle, neq, ng_lt, gn_lt, gg_lt, ng_le, gn_le, gg_le, ng_eq, gn_eq, gg_eq, dv_i, if_pos, if_neg, ite_tt, ite_ff, if_b2, if_b2n, l_0, l_1, l_2, l_3, l_4, l_5, l_6, l_7, l_8, l_9, l_10, l_11, l_12, l_13, l_16, l_20, l_24, l_30, l_32, l_33, l_38, l_42, l_43, l_45, l_47, l_48, l_50, l_57, l_60, l_61, l_62, l_96, l_97, l_99, l_100, l_102, l_105, l_110, l_121, l_122, l_124, l_128, l_200, l_255, l_270, l_350, l_360, l_400, l_440, l_490, l_500, l_999, l_1000, l_9999, l_10000, l_99999, l_100000, l_1000000, l_1000000001, l_1000000002, l_1000000003, l_1000000005, l_1000000011, l_1000000012, l_1000000013, l_1000000014, g, g']
  · rw [show b2 (s = 3 ∧ B a = c) = nI 0 from if_neg (by omega)]
    simp (maxSteps := 1000000) (disch := omega) only [vv_e, mm_e, jn_e, bd_e, bd_i, ld_i, st_i, la_i, sl_i, nI_add, pk_mul, pk_sub, ng_add, neg_neg_n, nlt, nle, neq, ng_lt, gn_lt, gg_lt, ng_le, gn_le, gg_le, ng_eq, gn_eq, gg_eq, dv_i, if_pos, if_neg, ite_tt, ite_ff, if_b2, if_b2n, l_0, l_1, l_2, l_3, l_4, l_5, l_6, l_7, l_8, l_9, l_10, l_11, l_12, l_13, l_16, l_20, l_24, l_30, l_32, l_33, l_38, l_42, l_43, l_45, l_47, l_48, l_50, l_57, l_60, l_61, l_62, l_96, l_97, l_99, l_100, l_102, l_105, l_110, l_121, l_122, l_124, l_128, l_200, l_255, l_270, l_350, l_360, l_400, l_440, l_490, l_500, l_999, l_1000, l_9999, l_10000, l_99999, l_100000, l_1000000, l_1000000001, l_1000000002, l_1000000003, l_1000000005, l_1000000011, l_1000000012, l_1000000013, l_1000000014, g]
  · rw [show b2 (s = 3 ∧ B a = c) = nI 0 from if_neg (by omega)]
    simp (maxSteps := 1000000) (disch := omega) only [vv_e, mm_e, jn_e, bd_e, bd_i, ld_i, st_i, la_i, sl_i, nI_add, pk_mul, pk_sub, ng_add, neg_neg_n, nlt, nle, neq, ng_lt, gn_lt, gg_lt, ng_le, gn_le, gg_le, ng_eq, gn_eq, gg_eq, dv_i, if_pos, if_neg, ite_tt, ite_ff, if_b2, if_b2n, l_0, l_1, l_2, l_3, l_4, l_5, l_6, l_7, l_8, l_9, l_10, l_11, l_12, l_13, l_16, l_20, l_24, l_30, l_32, l_33, l_38, l_42, l_43, l_45, l_47, l_48, l_50, l_57, l_60, l_61, l_62, l_96, l_97, l_99, l_100, l_102, l_105, l_110, l_121, l_122, l_124, l_128, l_200, l_255, l_270, l_350, l_360, l_400, l_440, l_490, l_500, l_999, l_1000, l_9999, l_10000, l_99999, l_100000, l_1000000, l_1000000001, l_1000000002, l_1000000003, l_1000000005, l_1000000011, l_1000000012, l_1000000013, l_1000000014, g]
  · rw [show b2 (s = 3 ∧ B a = c) = nI 0 from if_neg (by omega)]
    simp (maxSteps := 1000000) (disch := omega) only [vv_e, mm_e, jn_e, bd_e, bd_i, ld_i, st_i, la_i, sl_i, nI_add, pk_mul, pk_sub, ng_add, neg_neg_n, nlt, nle, neq, ng_lt, gn_lt, gg_lt, ng_le, gn_le, gg_le, ng_eq, gn_eq, gg_eq, dv_i, if_pos, if_neg, ite_tt, ite_ff, if_b2, if_b2n, l_0, l_1, l_2, l_3, l_4, l_5, l_6, l_7, l_8, l_9, l_10, l_11, l_12, l_13, l_16, l_20, l_24, l_30, l_32, l_33, l_38, l_42, l_43, l_45, l_47, l_48, l_50, l_57, l_60, l_61, l_62, l_96, l_97, l_99, l_100, l_102, l_105, l_110, l_121, l_122, l_124, l_128, l_200, l_255, l_270, l_350, l_360, l_400, l_440, l_490, l_500, l_999, l_1000, l_9999, l_10000, l_99999, l_100000, l_1000000, l_1000000001, l_1000000002, l_1000000003, l_1000000005, l_1000000011, l_1000000012, l_1000000013, l_1000000014, g]
  · rw [show b2 (s = 3 ∧ B a = c) = nI 0 from if_neg (by omega)]
    simp (maxSteps := 1000000) (disch := omega) only [vv_e, mm_e, jn_e, bd_e, bd_i, ld_i, st_i, la_i, sl_i, nI_add, pk_mul, pk_sub, ng_add, neg_neg_n, nlt, nle, neq, ng_lt, gn_lt, gg_lt, ng_le, gn_le, gg_le, ng_eq, gn_eq, gg_eq, dv_i, if_pos, if_neg, ite_tt, ite_ff, if_b2, if_b2n, l_0, l_1, l_2, l_3, l_4, l_5, l_6, l_7, l_8, l_9, l_10, l_11, l_12, l_13, l_16, l_20, l_24, l_30, l_32, l_33, l_38, l_42, l_43, l_45, l_47, l_48, l_50, l_57, l_60, l_61, l_62, l_96, l_97, l_99, l_100, l_102, l_105, l_110, l_121, l_122, l_124, l_128, l_200, l_255, l_270, l_350, l_360, l_400, l_440, l_490, l_500, l_999, l_1000, l_9999, l_10000, l_99999, l_100000, l_1000000, l_1000000001, l_1000000002, l_1000000003, l_1000000005, l_1000000011, l_1000000012, l_1000000013, l_1000000014, g]
theorem c_put {M : Mem} {d : Nat} (v : Int32) (h7 : M 61 7 = nI d) (hd : d < 96) : f_X7_put 61 v M = some (nI 0, up (up M 63 d v) 61 7 (nI (d + 1))) := by
  unfold f_X7_put
  simp (maxSteps := 1000000) (disch := omega) only [vv_e, mm_e, jn_e, bd_e, bd_i, e1_0_0, e1_0_1, e1_0_3, e1_0_4, e1_0_6, e1_0_7, e1_1_0, e1_1_1, e1_1_2, e1_1_3, e1_1_4, e1_1_5, e1_1_9, e1_2_1, e1_2_3, e1_2_4, e1_2_5, e1_2_6, e1_2_7, e1_9_1, e1_9_2, e1_9_3, e1_9_4, e1_9_5, e1_9_6, e1_16_0, e1_16_1, e1_19_0, e1_19_2, e1_19_3, e1_19_4, e1_24_1, e1_24_2, e1_24_3, e1_24_5, e1_61_0, e1_61_6, ld_i, st_i, la_i, sl_i, nI_add, pk_mul, pk_sub, ng_add, neg_neg_n, nlt, nle, neq, ng_lt, gn_lt, gg_lt, ng_le, gn_le, gg_le, ng_eq, gn_eq, gg_eq, dv_i, if_pos, if_neg, ite_tt, ite_ff, if_b2, if_b2n, l_0, l_1, l_2, l_3, l_4, l_5, l_6, l_7, l_8, l_9, l_10, l_11, l_12, l_13, l_16, l_20, l_24, l_30, l_32, l_33, l_38, l_42, l_43, l_45, l_47, l_48, l_50, l_57, l_60, l_61, l_62, l_96, l_97, l_99, l_100, l_102, l_105, l_110, l_121, l_122, l_124, l_128, l_200, l_255, l_270, l_350, l_360, l_400, l_440, l_490, l_500, l_999, l_1000, l_9999, l_10000, l_99999, l_100000, l_1000000, l_1000000001, l_1000000002, l_1000000003, l_1000000005, l_1000000011, l_1000000012, l_1000000013, l_1000000014, up_a, up_k, up_same, h7]
theorem c_put' {M : Mem} {d : Nat} (v : Int32) (h7 : M 61 7 = nI d) (hd : d ≤ 96) : Res (fun _ M' => ∃ m, m ≤ 96 ∧ M' 61 7 = nI m ∧ (∀ q, q ≠ 61 → q ≠ 63 → M' q = M q) ∧ ∀ f, f ≠ 7 → M' 61 f = M 61 f) (f_X7_put 61 v M) := by
  by_cases h : d < 96
  · rw [c_put v h7 h]
    exact Res.mk ⟨d + 1, by omega, up_same _ _ _ _, fun q h1 h2 => by rw [up_ne h1, up_ne h2], fun f hf => by rw [up_k _ _ _ _ _ hf, up_ne (by decide)]⟩
  · unfold f_X7_put
    simp (maxSteps := 1000000) (disch := omega) only [vv_e, mm_e, jn_e, bd_e, bd_i, ld_i, st_i, la_i, sl_i, nI_add, pk_mul, pk_sub, ng_add, neg_neg_n, nlt, nle, neq, ng_lt, gn_lt, gg_lt, ng_le, gn_le, gg_le, ng_eq, gn_eq, gg_eq, dv_i, if_pos, if_neg, ite_tt, ite_ff, if_b2, if_b2n, l_0, l_1, l_2, l_3, l_4, l_5, l_6, l_7, l_8, l_9, l_10, l_11, l_12, l_13, l_16, l_20, l_24, l_30, l_32, l_33, l_38, l_42, l_43, l_45, l_47, l_48, l_50, l_57, l_60, l_61, l_62, l_96, l_97, l_99, l_100, l_102, l_105, l_110, l_121, l_122, l_124, l_128, l_200, l_255, l_270, l_350, l_360, l_400, l_440, l_490, l_500, l_999, l_1000, l_9999, l_10000, l_99999, l_100000, l_1000000, l_1000000001, l_1000000002, l_1000000003, l_1000000005, l_1000000011, l_1000000012, l_1000000013, l_1000000014, h7]
    exact Res.mk ⟨d, hd, h7, fun _ _ _ => rfl, fun _ _ => rfl⟩
theorem m_step {N : Mem} {d L : Nat} (w v : Int32) (h21 : N 0 21 = nI d) (h22 : N 0 22 = nI L) (hL : L + 192 ≤ 3510) (hd : d < 96) : f_X10_step 0 w v N = some (nI 0, up (up (up N 1 (L + 2 * d) w) 1 (L + 2 * d + 1) v) 0 21 (nI (d + 1))) := by
  unfold f_X10_step
  simp (maxSteps := 1000000) (disch := omega) only [vv_e, mm_e, jn_e, bd_e, bd_i, e2_0_0, e2_0_1, e2_0_2, e2_0_4, e2_0_5, e2_0_6, e2_0_7, e2_0_8, e2_0_9, e2_0_10, e2_0_11, e2_0_12, e2_0_24, e2_0_25, e2_0_28, e2_0_29, e2_0_30, e2_0_34, e2_0_35, e2_0_36, e2_0_38, ld_i, st_i, la_i, sl_i, nI_add, pk_mul, pk_sub, ng_add, neg_neg_n, nlt, nle, neq, ng_lt, gn_lt, gg_lt, ng_le, gn_le, gg_le, ng_eq, gn_eq, gg_eq, dv_i, if_pos, if_neg, ite_tt, ite_ff, if_b2, if_b2n, l_0, l_1, l_2, l_3, l_4, l_5, l_6, l_7, l_8, l_9, l_10, l_11, l_12, l_13, l_16, l_20, l_24, l_30, l_32, l_33, l_38, l_42, l_43, l_45, l_47, l_48, l_50, l_57, l_60, l_61, l_62, l_96, l_97, l_99, l_100, l_102, l_105, l_110, l_121, l_122, l_124, l_128, l_200, l_255, l_270, l_350, l_360, l_400, l_440, l_490, l_500, l_999, l_1000, l_9999, l_10000, l_99999, l_100000, l_1000000, l_1000000001, l_1000000002, l_1000000003, l_1000000005, l_1000000011, l_1000000012, l_1000000013, l_1000000014, up_a, up_k, up_same, h21, h22]
theorem c_isNum {n : Nat} {B : Nat → Nat} {M N : Mem} {a b s : Nat} (h : TK n B M N a b s) : f_X7_isNumberHere 61 M = some (b2 (s = 2 ∧ b ≤ a + 4), M) := by
  have hn := h.n
  obtain ⟨hC, hM, h8, h9, h10, h14, h15, hab, hbn, hc⟩ := h
  unfold f_X7_isNumberHere
  by_cases hx : s = 2 ∧ b ≤ a + 4
  · rw [show b2 (s = 2 ∧ b ≤ a + 4) = nI 1 from if_pos hx]
    simp (maxSteps := 1000000) (disch := omega) only [vv_e, mm_e, jn_e, bd_e, bd_i, ld_i, st_i, la_i, sl_i, nI_add, pk_mul, pk_sub, ng_add, neg_neg_n, nlt, nle, neq, ng_lt, gn_lt, gg_lt, ng_le, gn_le, gg_le, ng_eq, gn_eq, gg_eq, dv_i, if_pos, if_neg, ite_tt, ite_ff, if_b2, if_b2n, l_0, l_1, l_2, l_3, l_4, l_5, l_6, l_7, l_8, l_9, l_10, l_11, l_12, l_13, l_16, l_20, l_24, l_30, l_32, l_33, l_38, l_42, l_43, l_45, l_47, l_48, l_50, l_57, l_60, l_61, l_62, l_96, l_97, l_99, l_100, l_102, l_105, l_110, l_121, l_122, l_124, l_128, l_200, l_255, l_270, l_350, l_360, l_400, l_440, l_490, l_500, l_999, l_1000, l_9999, l_10000, l_99999, l_100000, l_1000000, l_1000000001, l_1000000002, l_1000000003, l_1000000005, l_1000000011, l_1000000012, l_1000000013, l_1000000014, h10, h9, h8]
  · rw [show b2 (s = 2 ∧ b ≤ a + 4) = nI 0 from if_neg hx]
    by_cases h2 : s = 2
    · simp (maxSteps := 1000000) (disch := omega) only [vv_e, mm_e, jn_e, bd_e, bd_i, ld_i, st_i, la_i, sl_i, nI_add, pk_mul, pk_sub, ng_add, neg_neg_n, nlt, nle, neq, ng_lt, gn_lt, gg_lt, ng_le, gn_le, gg_le, ng_eq, gn_eq, gg_eq, dv_i, if_pos, if_neg, ite_tt, ite_ff, if_b2, if_b2n, l_0, l_1, l_2, l_3, l_4, l_5, l_6, l_7, l_8, l_9, l_10, l_11, l_12, l_13, l_16, l_20, l_24, l_30, l_32, l_33, l_38, l_42, l_43, l_45, l_47, l_48, l_50, l_57, l_60, l_61, l_62, l_96, l_97, l_99, l_100, l_102, l_105, l_110, l_121, l_122, l_124, l_128, l_200, l_255, l_270, l_350, l_360, l_400, l_440, l_490, l_500, l_999, l_1000, l_9999, l_10000, l_99999, l_100000, l_1000000, l_1000000001, l_1000000002, l_1000000003, l_1000000005, l_1000000011, l_1000000012, l_1000000013, l_1000000014, h10, h9, h8]
    · simp (maxSteps := 1000000) (disch := omega) only [vv_e, mm_e, jn_e, bd_e, bd_i, ld_i, st_i, la_i, sl_i, nI_add, pk_mul, pk_sub, ng_add, neg_neg_n, nlt, nle, neq, ng_lt, gn_lt, gg_lt, ng_le, gn_le, gg_le, ng_eq, gn_eq, gg_eq, dv_i, if_pos, if_neg, ite_tt, ite_ff, if_b2, if_b2n, l_0, l_1, l_2, l_3, l_4, l_5, l_6, l_7, l_8, l_9, l_10, l_11, l_12, l_13, l_16, l_20, l_24, l_30, l_32, l_33, l_38, l_42, l_43, l_45, l_47, l_48, l_50, l_57, l_60, l_61, l_62, l_96, l_97, l_99, l_100, l_102, l_105, l_110, l_121, l_122, l_124, l_128, l_200, l_255, l_270, l_350, l_360, l_400, l_440, l_490, l_500, l_999, l_1000, l_9999, l_10000, l_99999, l_100000, l_1000000, l_1000000001, l_1000000002, l_1000000003, l_1000000005, l_1000000011, l_1000000012, l_1000000013, l_1000000014, h10]
theorem c_num {n : Nat} {B : Nat → Nat} {M N : Mem} {a b s : Nat} (h : TK n B M N a b s) (hs : s = 2) (hb4 : b ≤ a + 4) : f_X7_numberHere 61 M = some (nI (vl B a (b - a)), M) := by
  have hn := h.n
  obtain ⟨hC, hM, h8, h9, h10, h14, h15, hab, hbn, hc⟩ := h
  have hd : ∀ j, a ≤ j → j < b → 48 ≤ B j ∧ B j ≤ 57 := by
    rcases hc with ⟨c0, c1, g⟩ | ⟨c0, c1, c2, g, g'⟩ | ⟨c0, c1, c2, g, _⟩ | ⟨c0, c1, _, g, _⟩ | ⟨c0, c1, g⟩ | ⟨c0, c1, g⟩
    · omega
    · omega
    · omega
    · exact g
    · omega
    · omega
  have e1 := hC.2.1
  apply Res.eq
  unfold f_X7_numberHere
  simp (maxSteps := 1000000) (disch := omega) only [vv_e, mm_e, jn_e, bd_e, bd_i, h8]
  refine lo2 (fun m v y M1 => ∃ k, k + m = b - a ∧ v = nI (vl B a k) ∧ y = nI (a + k) ∧ M1 = M) ?_ fuel (b - a) _ _ M (by show b - a < 5000; omega) ⟨0, by omega, rfl, rfl, rfl⟩
  rintro m rc _ _ M1 ⟨k, hk, rfl, rfl, e⟩ ih
  subst e
  by_cases hkb : a + k < b
  · obtain ⟨hu, eb⟩ := hC.2.2 (a + k) (by omega)
    have hdk := hd (a + k) (by omega) hkb
    rw [show cbv (B (a + k)) = nI (B (a + k)) from if_pos (by omega)] at eb
    simp (maxSteps := 1000000) (disch := omega) only [vv_e, mm_e, jn_e, bd_e, bd_i, e1_0_0, e1_0_1, e1_0_3, e1_0_4, e1_0_6, e1_0_7, e1_1_0, e1_1_1, e1_1_2, e1_1_3, e1_1_4, e1_1_5, e1_1_9, e1_2_1, e1_2_3, e1_2_4, e1_2_5, e1_2_6, e1_2_7, e1_9_1, e1_9_2, e1_9_3, e1_9_4, e1_9_5, e1_9_6, e1_16_0, e1_16_1, e1_19_0, e1_19_2, e1_19_3, e1_19_4, e1_24_1, e1_24_2, e1_24_3, e1_24_5, e1_61_0, e1_61_6, ld_i, st_i, la_i, sl_i, nI_add, pk_mul, pk_sub, ng_add, neg_neg_n, nlt, nle, neq, ng_lt, gn_lt, gg_lt, ng_le, gn_le, gg_le, ng_eq, gn_eq, gg_eq, dv_i, if_pos, if_neg, ite_tt, ite_ff, if_b2, if_b2n, l_0, l_1, l_2, l_3, l_4, l_5, l_6, l_7, l_8, l_9, l_10, l_11, l_12, l_13, l_16, l_20, l_24, l_30, l_32, l_33, l_38, l_42, l_43, l_45, l_47, l_48, l_50, l_57, l_60, l_61, l_62, l_96, l_97, l_99, l_100, l_102, l_105, l_110, l_121, l_122, l_124, l_128, l_200, l_255, l_270, l_350, l_360, l_400, l_440, l_490, l_500, l_999, l_1000, l_9999, l_10000, l_99999, l_100000, l_1000000, l_1000000001, l_1000000002, l_1000000003, l_1000000005, l_1000000011, l_1000000012, l_1000000013, l_1000000014, h9, e1, eb]
    refine ih (m - 1) _ _ _ (by omega) ⟨k + 1, by omega, ?_, rfl, rfl⟩
    show _ = nI (vl B a k * 10 + (B (a + k) - 48))
    exact congrArg nI (by omega)
  · simp (maxSteps := 1000000) (disch := omega) only [vv_e, mm_e, jn_e, bd_e, bd_i, ld_i, st_i, la_i, sl_i, nI_add, pk_mul, pk_sub, ng_add, neg_neg_n, nlt, nle, neq, ng_lt, gn_lt, gg_lt, ng_le, gn_le, gg_le, ng_eq, gn_eq, gg_eq, dv_i, if_pos, if_neg, ite_tt, ite_ff, if_b2, if_b2n, l_0, l_1, l_2, l_3, l_4, l_5, l_6, l_7, l_8, l_9, l_10, l_11, l_12, l_13, l_16, l_20, l_24, l_30, l_32, l_33, l_38, l_42, l_43, l_45, l_47, l_48, l_50, l_57, l_60, l_61, l_62, l_96, l_97, l_99, l_100, l_102, l_105, l_110, l_121, l_122, l_124, l_128, l_200, l_255, l_270, l_350, l_360, l_400, l_440, l_490, l_500, l_999, l_1000, l_9999, l_10000, l_99999, l_100000, l_1000000, l_1000000001, l_1000000002, l_1000000003, l_1000000005, l_1000000011, l_1000000012, l_1000000013, l_1000000014, h9]
    exact Res.mk ⟨congrArg (fun k => nI (vl B a k)) (by omega), rfl⟩
/-! names -/
def nix (kc u : Nat) : Nat := if kc = 0 then (if u = 110 then 1 else if u = 102 then 2 else if u = 105 then 3 else 0) else if kc = 1 then (if u = 110 then 1 else if u = 121 then 2 else 0) else (if u = 99 then 1 else if u = 100 then 2 else if u = 97 then 3 else 0)
theorem ch_eq : ∀ u, u < 128 → (Int32.toUInt32 (nI u) % 65536).toInt32 = nI u := by decide +kernel
theorem by_eq : ∀ u, u < 128 → Int8.toInt32 (Int32.toInt8 (nI u)) = nI u := by decide +kernel
theorem ls0 : lenS.getD 0 0 = 7 := Eq.trans rfl rfl
theorem ls1 : lenS.getD 1 0 = 6 := Eq.trans rfl rfl
theorem ls2 : lenS.getD 2 0 = 3 := Eq.trans rfl rfl
theorem ls3 : lenS.getD 3 0 = 3 := Eq.trans rfl rfl
theorem ls4 : lenS.getD 4 0 = 2 := Eq.trans rfl rfl
theorem ls5 : lenS.getD 5 0 = 3 := Eq.trans rfl rfl
theorem bs30 : (bytS.getD 3 []).getD 0 0 = nI 110 := Eq.trans rfl rfl
theorem bs31 : (bytS.getD 3 []).getD 1 0 = nI 102 := Eq.trans rfl rfl
theorem bs32 : (bytS.getD 3 []).getD 2 0 = nI 105 := Eq.trans rfl rfl
theorem bs40 : (bytS.getD 4 []).getD 0 0 = nI 110 := Eq.trans rfl rfl
theorem bs41 : (bytS.getD 4 []).getD 1 0 = nI 121 := Eq.trans rfl rfl
theorem bs50 : (bytS.getD 5 []).getD 0 0 = nI 99 := Eq.trans rfl rfl
theorem bs51 : (bytS.getD 5 []).getD 1 0 = nI 100 := Eq.trans rfl rfl
theorem bs52 : (bytS.getD 5 []).getD 2 0 = nI 97 := Eq.trans rfl rfl
theorem sh_0 : ∀ k, k < 10 → (nI k) >>> ((0 : Int32) &&& 31) = nI k := by decide +kernel
theorem j_len (p : Nat) (M : Mem) (hp : lenS.getD p 0 < 10) : f_J0_length_8abf5 p M = some (nI (lenS.getD p 0), M) := by
  show some ((nI (lenS.getD p 0)) >>> ((0 : Int32) &&& 31), M) = _
  rw [sh_0 _ hp]
theorem ixc3 (u : Nat) (M : Mem) (hu : u < 128) : f_J1_indexOfChar_4cfef 3 (nI u) (nI 0) (nI 3) M = some (nI (nix 0 u) - nI 1, M) := by
  apply Res.eq
  unfold f_J1_indexOfChar_4cfef
  rw [vv_e, by_eq u hu, ls3]
  refine lo1 (fun m y M1 => ∃ k, k + m = 3 ∧ y = nI k ∧ M1 = M ∧ (0 < k → u ≠ 110) ∧ (1 < k → u ≠ 102) ∧ (2 < k → u ≠ 105)) ?_ fuel 3 _ M (by show 3 < 5000; omega) ⟨0, by omega, rfl, rfl, by omega, by omega, by omega⟩
  rintro m rc _ M1 ⟨k, hk, rfl, rfl, h1, h2, h3⟩ ih
  have nx : ∀ i, nix 0 u = i + 1 → Res (fun r M' => r = nI (nix 0 u) - nI 1 ∧ M' = M1) (some (nI i, M1)) := fun i hi => Res.mk ⟨by rw [hi]; exact (nI_pred i).symm, rfl⟩
  rcases (show k = 0 ∨ k = 1 ∨ k = 2 ∨ k = 3 by omega) with rfl | rfl | rfl | rfl
  · rw [if_pos (show nI 0 < nI 3 by decide), sl_i (by omega) (by omega), bs30]
    by_cases e : u = 110
    · rw [if_pos (show nI 110 = nI u by rw [e])]
      exact nx 0 (by unfold nix; rw [if_pos rfl, if_pos e])
    · rw [if_neg (show ¬ nI 110 = nI u by rw [neq (by omega) (by omega)]; omega)]
      exact ih (m - 1) _ _ (by omega) ⟨1, by omega, rfl, rfl, by omega, by omega, by omega⟩
  · rw [if_pos (show nI 1 < nI 3 by decide), sl_i (by omega) (by omega), bs31]
    by_cases e : u = 102
    · rw [if_pos (show nI 102 = nI u by rw [e])]
      exact nx 1 (by unfold nix; rw [if_pos rfl, if_neg (by omega), if_pos e])
    · rw [if_neg (show ¬ nI 102 = nI u by rw [neq (by omega) (by omega)]; omega)]
      exact ih (m - 1) _ _ (by omega) ⟨2, by omega, rfl, rfl, by omega, by omega, by omega⟩
  · rw [if_pos (show nI 2 < nI 3 by decide), sl_i (by omega) (by omega), bs32]
    by_cases e : u = 105
    · rw [if_pos (show nI 105 = nI u by rw [e])]
      exact nx 2 (by unfold nix; rw [if_pos rfl, if_neg (by omega), if_neg (by omega), if_pos e])
    · rw [if_neg (show ¬ nI 105 = nI u by rw [neq (by omega) (by omega)]; omega)]
      exact ih (m - 1) _ _ (by omega) ⟨3, by omega, rfl, rfl, by omega, by omega, by omega⟩
  · rw [if_neg (show ¬ nI 3 < nI 3 by decide)]
    refine Res.mk ⟨?_, rfl⟩
    rw [show nix 0 u = 0 by unfold nix; rw [if_pos rfl, if_neg (by omega), if_neg (by omega), if_neg (by omega)]]
    decide
theorem ixc4 (u : Nat) (M : Mem) (hu : u < 128) : f_J1_indexOfChar_4cfef 4 (nI u) (nI 0) (nI 2) M = some (nI (nix 1 u) - nI 1, M) := by
  apply Res.eq
  unfold f_J1_indexOfChar_4cfef
  rw [vv_e, by_eq u hu, ls4]
  refine lo1 (fun m y M1 => ∃ k, k + m = 2 ∧ y = nI k ∧ M1 = M ∧ (0 < k → u ≠ 110) ∧ (1 < k → u ≠ 121)) ?_ fuel 2 _ M (by show 2 < 5000; omega) ⟨0, by omega, rfl, rfl, by omega, by omega⟩
  rintro m rc _ M1 ⟨k, hk, rfl, rfl, h1, h2⟩ ih
  have nx : ∀ i, nix 1 u = i + 1 → Res (fun r M' => r = nI (nix 1 u) - nI 1 ∧ M' = M1) (some (nI i, M1)) := fun i hi => Res.mk ⟨by rw [hi]; exact (nI_pred i).symm, rfl⟩
  rcases (show k = 0 ∨ k = 1 ∨ k = 2 by omega) with rfl | rfl | rfl
  · rw [if_pos (show nI 0 < nI 2 by decide), sl_i (by omega) (by omega), bs40]
    by_cases e : u = 110
    · rw [if_pos (show nI 110 = nI u by rw [e])]
      exact nx 0 (by unfold nix; rw [if_neg (by omega), if_pos rfl, if_pos e])
    · rw [if_neg (show ¬ nI 110 = nI u by rw [neq (by omega) (by omega)]; omega)]
      exact ih (m - 1) _ _ (by omega) ⟨1, by omega, rfl, rfl, by omega, by omega⟩
  · rw [if_pos (show nI 1 < nI 2 by decide), sl_i (by omega) (by omega), bs41]
    by_cases e : u = 121
    · rw [if_pos (show nI 121 = nI u by rw [e])]
      exact nx 1 (by unfold nix; rw [if_neg (by omega), if_pos rfl, if_neg (by omega), if_pos e])
    · rw [if_neg (show ¬ nI 121 = nI u by rw [neq (by omega) (by omega)]; omega)]
      exact ih (m - 1) _ _ (by omega) ⟨2, by omega, rfl, rfl, by omega, by omega⟩
  · rw [if_neg (show ¬ nI 2 < nI 2 by decide)]
    refine Res.mk ⟨?_, rfl⟩
    rw [show nix 1 u = 0 by unfold nix; rw [if_neg (by omega), if_pos rfl, if_neg (by omega), if_neg (by omega)]]
    decide
theorem ixc5 (u : Nat) (M : Mem) (hu : u < 128) : f_J1_indexOfChar_4cfef 5 (nI u) (nI 0) (nI 3) M = some (nI (nix 2 u) - nI 1, M) := by
  apply Res.eq
  unfold f_J1_indexOfChar_4cfef
  rw [vv_e, by_eq u hu, ls5]
  refine lo1 (fun m y M1 => ∃ k, k + m = 3 ∧ y = nI k ∧ M1 = M ∧ (0 < k → u ≠ 99) ∧ (1 < k → u ≠ 100) ∧ (2 < k → u ≠ 97)) ?_ fuel 3 _ M (by show 3 < 5000; omega) ⟨0, by omega, rfl, rfl, by omega, by omega, by omega⟩
  rintro m rc _ M1 ⟨k, hk, rfl, rfl, h1, h2, h3⟩ ih
  have nx : ∀ i, nix 2 u = i + 1 → Res (fun r M' => r = nI (nix 2 u) - nI 1 ∧ M' = M1) (some (nI i, M1)) := fun i hi => Res.mk ⟨by rw [hi]; exact (nI_pred i).symm, rfl⟩
  rcases (show k = 0 ∨ k = 1 ∨ k = 2 ∨ k = 3 by omega) with rfl | rfl | rfl | rfl
  · rw [if_pos (show nI 0 < nI 3 by decide), sl_i (by omega) (by omega), bs50]
    by_cases e : u = 99
    · rw [if_pos (show nI 99 = nI u by rw [e])]
      exact nx 0 (by unfold nix; rw [if_neg (by omega), if_neg (by omega), if_pos e])
    · rw [if_neg (show ¬ nI 99 = nI u by rw [neq (by omega) (by omega)]; omega)]
      exact ih (m - 1) _ _ (by omega) ⟨1, by omega, rfl, rfl, by omega, by omega, by omega⟩
  · rw [if_pos (show nI 1 < nI 3 by decide), sl_i (by omega) (by omega), bs51]
    by_cases e : u = 100
    · rw [if_pos (show nI 100 = nI u by rw [e])]
      exact nx 1 (by unfold nix; rw [if_neg (by omega), if_neg (by omega), if_neg (by omega), if_pos e])
    · rw [if_neg (show ¬ nI 100 = nI u by rw [neq (by omega) (by omega)]; omega)]
      exact ih (m - 1) _ _ (by omega) ⟨2, by omega, rfl, rfl, by omega, by omega, by omega⟩
  · rw [if_pos (show nI 2 < nI 3 by decide), sl_i (by omega) (by omega), bs52]
    by_cases e : u = 97
    · rw [if_pos (show nI 97 = nI u by rw [e])]
      exact nx 2 (by unfold nix; rw [if_neg (by omega), if_neg (by omega), if_neg (by omega), if_neg (by omega), if_pos e])
    · rw [if_neg (show ¬ nI 97 = nI u by rw [neq (by omega) (by omega)]; omega)]
      exact ih (m - 1) _ _ (by omega) ⟨3, by omega, rfl, rfl, by omega, by omega, by omega⟩
  · rw [if_neg (show ¬ nI 3 < nI 3 by decide)]
    refine Res.mk ⟨?_, rfl⟩
    rw [show nix 2 u = 0 by unfold nix; rw [if_neg (by omega), if_neg (by omega), if_neg (by omega), if_neg (by omega), if_neg (by omega)]]
    decide
theorem ixs (p len : Nat) (u : Nat) (x : Int32) (M : Mem) (hu : u < 128) (hl : lenS.getD p 0 = len) (h0 : 0 < len) (h10 : len < 10) (h : f_J1_indexOfChar_4cfef p (nI u) (nI 0) (nI len) M = some (x, M)) : f_J0_indexOf_0f7a4 p ((Int32.toUInt32 (nI u) % 65536).toInt32) M = some (x, M) := by
  rw [ch_eq u hu]
  unfold f_J0_indexOf_0f7a4 f_J0_indexOf_7cf53 f_J1_indexOf_4cfef f_J0_isLatin1_aae02 f_J1_canEncode_9a6ad
  simp (maxSteps := 1000000) (disch := omega) only [vv_e, mm_e, jn_e, bd_e, bd_i, ld_i, st_i, la_i, sl_i, nI_add, pk_mul, pk_sub, ng_add, neg_neg_n, nlt, nle, neq, ng_lt, gn_lt, gg_lt, ng_le, gn_le, gg_le, ng_eq, gn_eq, gg_eq, dv_i, if_pos, if_neg, ite_tt, ite_ff, if_b2, if_b2n, l_0, l_1, l_2, l_3, l_4, l_5, l_6, l_7, l_8, l_9, l_10, l_11, l_12, l_13, l_16, l_20, l_24, l_30, l_32, l_33, l_38, l_42, l_43, l_45, l_47, l_48, l_50, l_57, l_60, l_61, l_62, l_96, l_97, l_99, l_100, l_102, l_105, l_110, l_121, l_122, l_124, l_128, l_200, l_255, l_270, l_350, l_360, l_400, l_440, l_490, l_500, l_999, l_1000, l_9999, l_10000, l_99999, l_100000, l_1000000, l_1000000001, l_1000000002, l_1000000003, l_1000000005, l_1000000011, l_1000000012, l_1000000013, l_1000000014, j_len p M (by omega), hl, h]
theorem c_name {n : Nat} {B : Nat → Nat} {M N : Mem} {a b s kc : Nat} (h : TK n B M N a b s) (hk : M 61 3 = nI kc) (hkc : kc < 3) : f_X7_nameHere 61 M = some (nI (if s = 1 ∧ b = a + 1 then nix kc (B a) else 0) - nI 1, M) := by
  have hn := h.n
  obtain ⟨hC, hM, h8, h9, h10, h14, h15, hab, hbn, hc⟩ := h
  unfold f_X7_nameHere
  by_cases h1 : s = 1
  · by_cases hb1 : b = a + 1
    · have hl : ∀ j, a ≤ j → j < b → 97 ≤ B j ∧ B j ≤ 122 := by
        rcases hc with ⟨c0, c1, g⟩ | ⟨c0, c1, c2, g, g'⟩ | ⟨c0, c1, g, _⟩ | ⟨c0, c1, _, g, _⟩ | ⟨c0, c1, g⟩ | ⟨c0, c1, g⟩
        · omega
        · omega
        · exact g
        · omega
        · omega
        · omega
      have hla := hl a (by omega) (by omega)
      obtain ⟨hu, eb⟩ := hC.2.2 a (by omega)
      rw [show cbv (B a) = nI (B a) from if_pos (by omega)] at eb
      rw [if_pos ⟨h1, hb1⟩]
      rcases (show kc = 0 ∨ kc = 1 ∨ kc = 2 by omega) with rfl | rfl | rfl
      · simp (maxSteps := 1000000) (disch := omega) only [vv_e, mm_e, jn_e, bd_e, bd_i, e1_0_0, e1_0_1, e1_0_3, e1_0_4, e1_0_6, e1_0_7, e1_1_0, e1_1_1, e1_1_2, e1_1_3, e1_1_4, e1_1_5, e1_1_9, e1_2_1, e1_2_3, e1_2_4, e1_2_5, e1_2_6, e1_2_7, e1_9_1, e1_9_2, e1_9_3, e1_9_4, e1_9_5, e1_9_6, e1_16_0, e1_16_1, e1_19_0, e1_19_2, e1_19_3, e1_19_4, e1_24_1, e1_24_2, e1_24_3, e1_24_5, e1_61_0, e1_61_6, ld_i, st_i, la_i, sl_i, nI_add, pk_mul, pk_sub, ng_add, neg_neg_n, nlt, nle, neq, ng_lt, gn_lt, gg_lt, ng_le, gn_le, gg_le, ng_eq, gn_eq, gg_eq, dv_i, if_pos, if_neg, ite_tt, ite_ff, if_b2, if_b2n, l_0, l_1, l_2, l_3, l_4, l_5, l_6, l_7, l_8, l_9, l_10, l_11, l_12, l_13, l_16, l_20, l_24, l_30, l_32, l_33, l_38, l_42, l_43, l_45, l_47, l_48, l_50, l_57, l_60, l_61, l_62, l_96, l_97, l_99, l_100, l_102, l_105, l_110, l_121, l_122, l_124, l_128, l_200, l_255, l_270, l_350, l_360, l_400, l_440, l_490, l_500, l_999, l_1000, l_9999, l_10000, l_99999, l_100000, l_1000000, l_1000000001, l_1000000002, l_1000000003, l_1000000005, l_1000000011, l_1000000012, l_1000000013, l_1000000014, h8, h9, h10, hk, eb, ixs 3 3 (B a) _ M (by omega) ls3 (by omega) (by omega) (ixc3 (B a) M (by omega))]
      · simp (maxSteps := 1000000) (disch := omega) only [vv_e, mm_e, jn_e, bd_e, bd_i, e1_0_0, e1_0_1, e1_0_3, e1_0_4, e1_0_6, e1_0_7, e1_1_0, e1_1_1, e1_1_2, e1_1_3, e1_1_4, e1_1_5, e1_1_9, e1_2_1, e1_2_3, e1_2_4, e1_2_5, e1_2_6, e1_2_7, e1_9_1, e1_9_2, e1_9_3, e1_9_4, e1_9_5, e1_9_6, e1_16_0, e1_16_1, e1_19_0, e1_19_2, e1_19_3, e1_19_4, e1_24_1, e1_24_2, e1_24_3, e1_24_5, e1_61_0, e1_61_6, ld_i, st_i, la_i, sl_i, nI_add, pk_mul, pk_sub, ng_add, neg_neg_n, nlt, nle, neq, ng_lt, gn_lt, gg_lt, ng_le, gn_le, gg_le, ng_eq, gn_eq, gg_eq, dv_i, if_pos, if_neg, ite_tt, ite_ff, if_b2, if_b2n, l_0, l_1, l_2, l_3, l_4, l_5, l_6, l_7, l_8, l_9, l_10, l_11, l_12, l_13, l_16, l_20, l_24, l_30, l_32, l_33, l_38, l_42, l_43, l_45, l_47, l_48, l_50, l_57, l_60, l_61, l_62, l_96, l_97, l_99, l_100, l_102, l_105, l_110, l_121, l_122, l_124, l_128, l_200, l_255, l_270, l_350, l_360, l_400, l_440, l_490, l_500, l_999, l_1000, l_9999, l_10000, l_99999, l_100000, l_1000000, l_1000000001, l_1000000002, l_1000000003, l_1000000005, l_1000000011, l_1000000012, l_1000000013, l_1000000014, h8, h9, h10, hk, eb, ixs 4 2 (B a) _ M (by omega) ls4 (by omega) (by omega) (ixc4 (B a) M (by omega))]
      · simp (maxSteps := 1000000) (disch := omega) only [vv_e, mm_e, jn_e, bd_e, bd_i, e1_0_0, e1_0_1, e1_0_3, e1_0_4, e1_0_6, e1_0_7, e1_1_0, e1_1_1, e1_1_2, e1_1_3, e1_1_4, e1_1_5, e1_1_9, e1_2_1, e1_2_3, e1_2_4, e1_2_5, e1_2_6, e1_2_7, e1_9_1, e1_9_2, e1_9_3, e1_9_4, e1_9_5, e1_9_6, e1_16_0, e1_16_1, e1_19_0, e1_19_2, e1_19_3, e1_19_4, e1_24_1, e1_24_2, e1_24_3, e1_24_5, e1_61_0, e1_61_6, ld_i, st_i, la_i, sl_i, nI_add, pk_mul, pk_sub, ng_add, neg_neg_n, nlt, nle, neq, ng_lt, gn_lt, gg_lt, ng_le, gn_le, gg_le, ng_eq, gn_eq, gg_eq, dv_i, if_pos, if_neg, ite_tt, ite_ff, if_b2, if_b2n, l_0, l_1, l_2, l_3, l_4, l_5, l_6, l_7, l_8, l_9, l_10, l_11, l_12, l_13, l_16, l_20, l_24, l_30, l_32, l_33, l_38, l_42, l_43, l_45, l_47, l_48, l_50, l_57, l_60, l_61, l_62, l_96, l_97, l_99, l_100, l_102, l_105, l_110, l_121, l_122, l_124, l_128, l_200, l_255, l_270, l_350, l_360, l_400, l_440, l_490, l_500, l_999, l_1000, l_9999, l_10000, l_99999, l_100000, l_1000000, l_1000000001, l_1000000002, l_1000000003, l_1000000005, l_1000000011, l_1000000012, l_1000000013, l_1000000014, h8, h9, h10, hk, eb, ixs 5 3 (B a) _ M (by omega) ls5 (by omega) (by omega) (ixc5 (B a) M (by omega))]
    · rw [if_neg (by omega), show nI 0 - nI 1 = -nI 1 by decide]
      simp (maxSteps := 1000000) (disch := omega) only [vv_e, mm_e, jn_e, bd_e, bd_i, ld_i, st_i, la_i, sl_i, nI_add, pk_mul, pk_sub, ng_add, neg_neg_n, nlt, nle, neq, ng_lt, gn_lt, gg_lt, ng_le, gn_le, gg_le, ng_eq, gn_eq, gg_eq, dv_i, if_pos, if_neg, ite_tt, ite_ff, if_b2, if_b2n, l_0, l_1, l_2, l_3, l_4, l_5, l_6, l_7, l_8, l_9, l_10, l_11, l_12, l_13, l_16, l_20, l_24, l_30, l_32, l_33, l_38, l_42, l_43, l_45, l_47, l_48, l_50, l_57, l_60, l_61, l_62, l_96, l_97, l_99, l_100, l_102, l_105, l_110, l_121, l_122, l_124, l_128, l_200, l_255, l_270, l_350, l_360, l_400, l_440, l_490, l_500, l_999, l_1000, l_9999, l_10000, l_99999, l_100000, l_1000000, l_1000000001, l_1000000002, l_1000000003, l_1000000005, l_1000000011, l_1000000012, l_1000000013, l_1000000014, h8, h9, h10]
  · rw [if_neg (by omega), show nI 0 - nI 1 = -nI 1 by decide]
    simp (maxSteps := 1000000) (disch := omega) only [vv_e, mm_e, jn_e, bd_e, bd_i, ld_i, st_i, la_i, sl_i, nI_add, pk_mul, pk_sub, ng_add, neg_neg_n, nlt, nle, neq, ng_lt, gn_lt, gg_lt, ng_le, gn_le, gg_le, ng_eq, gn_eq, gg_eq, dv_i, if_pos, if_neg, ite_tt, ite_ff, if_b2, if_b2n, l_0, l_1, l_2, l_3, l_4, l_5, l_6, l_7, l_8, l_9, l_10, l_11, l_12, l_13, l_16, l_20, l_24, l_30, l_32, l_33, l_38, l_42, l_43, l_45, l_47, l_48, l_50, l_57, l_60, l_61, l_62, l_96, l_97, l_99, l_100, l_102, l_105, l_110, l_121, l_122, l_124, l_128, l_200, l_255, l_270, l_350, l_360, l_400, l_440, l_490, l_500, l_999, l_1000, l_9999, l_10000, l_99999, l_100000, l_1000000, l_1000000001, l_1000000002, l_1000000003, l_1000000005, l_1000000011, l_1000000012, l_1000000013, l_1000000014, h10]
theorem m_name {kc km u : Nat} (N : Mem) (h : (kc = 0 ∧ km < 12) ∨ (kc = 1 ∧ km = 12) ∨ (kc = 2 ∧ km = 13)) (hu : u < 256) : f_X10_isName (nI km) (nI u) N = some (b2 (nix kc u ≠ 0), N) := by
  unfold f_X10_isName
  have e : ∀ p : Prop, [Decidable p] → p → b2 p = nI 1 := fun p _ h => if_pos h
  have e' : ∀ p : Prop, [Decidable p] → ¬ p → b2 p = nI 0 := fun p _ h => if_neg h
  unfold nix
  rcases h with ⟨rfl, h⟩ | ⟨rfl, rfl⟩ | ⟨rfl, rfl⟩
  · by_cases h1 : u = 110
    · simp (maxSteps := 1000000) (disch := omega) only [ld_i, st_i, la_i, sl_i, nI_add, pk_mul, pk_sub, ng_add, neg_neg_n, nlt, nle, neq, ng_lt, gn_lt, gg_lt, ng_le, gn_le, gg_le, ng_eq, gn_eq, gg_eq, dv_i, if_pos, if_neg, ite_tt, ite_ff, if_b2, if_b2n, l_0, l_1, l_2, l_3, l_4, l_5, l_6, l_7, l_8, l_9, l_10, l_11, l_12, l_13, l_16, l_20, l_24, l_30, l_32, l_33, l_38, l_42, l_43, l_45, l_47, l_48, l_50, l_57, l_60, l_61, l_62, l_96, l_97, l_99, l_100, l_102, l_105, l_110, l_121, l_122, l_124, l_128, l_200, l_255, l_270, l_350, l_360, l_400, l_440, l_490, l_500, l_999, l_1000, l_9999, l_10000, l_99999, l_100000, l_1000000, l_1000000001, l_1000000002, l_1000000003, l_1000000005, l_1000000011, l_1000000012, l_1000000013, l_1000000014]
      rw [e _ (by decide)]
    by_cases h2 : u = 102
    · simp (maxSteps := 1000000) (disch := omega) only [ld_i, st_i, la_i, sl_i, nI_add, pk_mul, pk_sub, ng_add, neg_neg_n, nlt, nle, neq, ng_lt, gn_lt, gg_lt, ng_le, gn_le, gg_le, ng_eq, gn_eq, gg_eq, dv_i, if_pos, if_neg, ite_tt, ite_ff, if_b2, if_b2n, l_0, l_1, l_2, l_3, l_4, l_5, l_6, l_7, l_8, l_9, l_10, l_11, l_12, l_13, l_16, l_20, l_24, l_30, l_32, l_33, l_38, l_42, l_43, l_45, l_47, l_48, l_50, l_57, l_60, l_61, l_62, l_96, l_97, l_99, l_100, l_102, l_105, l_110, l_121, l_122, l_124, l_128, l_200, l_255, l_270, l_350, l_360, l_400, l_440, l_490, l_500, l_999, l_1000, l_9999, l_10000, l_99999, l_100000, l_1000000, l_1000000001, l_1000000002, l_1000000003, l_1000000005, l_1000000011, l_1000000012, l_1000000013, l_1000000014]
      rw [e _ (by decide)]
    by_cases h3 : u = 105
    · simp (maxSteps := 1000000) (disch := omega) only [ld_i, st_i, la_i, sl_i, nI_add, pk_mul, pk_sub, ng_add, neg_neg_n, nlt, nle, neq, ng_lt, gn_lt, gg_lt, ng_le, gn_le, gg_le, ng_eq, gn_eq, gg_eq, dv_i, if_pos, if_neg, ite_tt, ite_ff, if_b2, if_b2n, l_0, l_1, l_2, l_3, l_4, l_5, l_6, l_7, l_8, l_9, l_10, l_11, l_12, l_13, l_16, l_20, l_24, l_30, l_32, l_33, l_38, l_42, l_43, l_45, l_47, l_48, l_50, l_57, l_60, l_61, l_62, l_96, l_97, l_99, l_100, l_102, l_105, l_110, l_121, l_122, l_124, l_128, l_200, l_255, l_270, l_350, l_360, l_400, l_440, l_490, l_500, l_999, l_1000, l_9999, l_10000, l_99999, l_100000, l_1000000, l_1000000001, l_1000000002, l_1000000003, l_1000000005, l_1000000011, l_1000000012, l_1000000013, l_1000000014]
      rw [e _ (by decide)]
    · simp (maxSteps := 1000000) (disch := omega) only [ld_i, st_i, la_i, sl_i, nI_add, pk_mul, pk_sub, ng_add, neg_neg_n, nlt, nle, neq, ng_lt, gn_lt, gg_lt, ng_le, gn_le, gg_le, ng_eq, gn_eq, gg_eq, dv_i, if_pos, if_neg, ite_tt, ite_ff, if_b2, if_b2n, l_0, l_1, l_2, l_3, l_4, l_5, l_6, l_7, l_8, l_9, l_10, l_11, l_12, l_13, l_16, l_20, l_24, l_30, l_32, l_33, l_38, l_42, l_43, l_45, l_47, l_48, l_50, l_57, l_60, l_61, l_62, l_96, l_97, l_99, l_100, l_102, l_105, l_110, l_121, l_122, l_124, l_128, l_200, l_255, l_270, l_350, l_360, l_400, l_440, l_490, l_500, l_999, l_1000, l_9999, l_10000, l_99999, l_100000, l_1000000, l_1000000001, l_1000000002, l_1000000003, l_1000000005, l_1000000011, l_1000000012, l_1000000013, l_1000000014]
      rw [e' _ (by decide)]
  · by_cases h1 : u = 110
    · simp (maxSteps := 1000000) (disch := omega) only [ld_i, st_i, la_i, sl_i, nI_add, pk_mul, pk_sub, ng_add, neg_neg_n, nlt, nle, neq, ng_lt, gn_lt, gg_lt, ng_le, gn_le, gg_le, ng_eq, gn_eq, gg_eq, dv_i, if_pos, if_neg, ite_tt, ite_ff, if_b2, if_b2n, l_0, l_1, l_2, l_3, l_4, l_5, l_6, l_7, l_8, l_9, l_10, l_11, l_12, l_13, l_16, l_20, l_24, l_30, l_32, l_33, l_38, l_42, l_43, l_45, l_47, l_48, l_50, l_57, l_60, l_61, l_62, l_96, l_97, l_99, l_100, l_102, l_105, l_110, l_121, l_122, l_124, l_128, l_200, l_255, l_270, l_350, l_360, l_400, l_440, l_490, l_500, l_999, l_1000, l_9999, l_10000, l_99999, l_100000, l_1000000, l_1000000001, l_1000000002, l_1000000003, l_1000000005, l_1000000011, l_1000000012, l_1000000013, l_1000000014]
      rw [e _ (by decide)]
    by_cases h2 : u = 121
    · simp (maxSteps := 1000000) (disch := omega) only [ld_i, st_i, la_i, sl_i, nI_add, pk_mul, pk_sub, ng_add, neg_neg_n, nlt, nle, neq, ng_lt, gn_lt, gg_lt, ng_le, gn_le, gg_le, ng_eq, gn_eq, gg_eq, dv_i, if_pos, if_neg, ite_tt, ite_ff, if_b2, if_b2n, l_0, l_1, l_2, l_3, l_4, l_5, l_6, l_7, l_8, l_9, l_10, l_11, l_12, l_13, l_16, l_20, l_24, l_30, l_32, l_33, l_38, l_42, l_43, l_45, l_47, l_48, l_50, l_57, l_60, l_61, l_62, l_96, l_97, l_99, l_100, l_102, l_105, l_110, l_121, l_122, l_124, l_128, l_200, l_255, l_270, l_350, l_360, l_400, l_440, l_490, l_500, l_999, l_1000, l_9999, l_10000, l_99999, l_100000, l_1000000, l_1000000001, l_1000000002, l_1000000003, l_1000000005, l_1000000011, l_1000000012, l_1000000013, l_1000000014]
      rw [e _ (by decide)]
    · simp (maxSteps := 1000000) (disch := omega) only [ld_i, st_i, la_i, sl_i, nI_add, pk_mul, pk_sub, ng_add, neg_neg_n, nlt, nle, neq, ng_lt, gn_lt, gg_lt, ng_le, gn_le, gg_le, ng_eq, gn_eq, gg_eq, dv_i, if_pos, if_neg, ite_tt, ite_ff, if_b2, if_b2n, l_0, l_1, l_2, l_3, l_4, l_5, l_6, l_7, l_8, l_9, l_10, l_11, l_12, l_13, l_16, l_20, l_24, l_30, l_32, l_33, l_38, l_42, l_43, l_45, l_47, l_48, l_50, l_57, l_60, l_61, l_62, l_96, l_97, l_99, l_100, l_102, l_105, l_110, l_121, l_122, l_124, l_128, l_200, l_255, l_270, l_350, l_360, l_400, l_440, l_490, l_500, l_999, l_1000, l_9999, l_10000, l_99999, l_100000, l_1000000, l_1000000001, l_1000000002, l_1000000003, l_1000000005, l_1000000011, l_1000000012, l_1000000013, l_1000000014]
      rw [e' _ (by decide)]
  · by_cases h1 : u = 99
    · simp (maxSteps := 1000000) (disch := omega) only [ld_i, st_i, la_i, sl_i, nI_add, pk_mul, pk_sub, ng_add, neg_neg_n, nlt, nle, neq, ng_lt, gn_lt, gg_lt, ng_le, gn_le, gg_le, ng_eq, gn_eq, gg_eq, dv_i, if_pos, if_neg, ite_tt, ite_ff, if_b2, if_b2n, l_0, l_1, l_2, l_3, l_4, l_5, l_6, l_7, l_8, l_9, l_10, l_11, l_12, l_13, l_16, l_20, l_24, l_30, l_32, l_33, l_38, l_42, l_43, l_45, l_47, l_48, l_50, l_57, l_60, l_61, l_62, l_96, l_97, l_99, l_100, l_102, l_105, l_110, l_121, l_122, l_124, l_128, l_200, l_255, l_270, l_350, l_360, l_400, l_440, l_490, l_500, l_999, l_1000, l_9999, l_10000, l_99999, l_100000, l_1000000, l_1000000001, l_1000000002, l_1000000003, l_1000000005, l_1000000011, l_1000000012, l_1000000013, l_1000000014]
      rw [e _ (by decide)]
    by_cases h2 : u = 100
    · simp (maxSteps := 1000000) (disch := omega) only [ld_i, st_i, la_i, sl_i, nI_add, pk_mul, pk_sub, ng_add, neg_neg_n, nlt, nle, neq, ng_lt, gn_lt, gg_lt, ng_le, gn_le, gg_le, ng_eq, gn_eq, gg_eq, dv_i, if_pos, if_neg, ite_tt, ite_ff, if_b2, if_b2n, l_0, l_1, l_2, l_3, l_4, l_5, l_6, l_7, l_8, l_9, l_10, l_11, l_12, l_13, l_16, l_20, l_24, l_30, l_32, l_33, l_38, l_42, l_43, l_45, l_47, l_48, l_50, l_57, l_60, l_61, l_62, l_96, l_97, l_99, l_100, l_102, l_105, l_110, l_121, l_122, l_124, l_128, l_200, l_255, l_270, l_350, l_360, l_400, l_440, l_490, l_500, l_999, l_1000, l_9999, l_10000, l_99999, l_100000, l_1000000, l_1000000001, l_1000000002, l_1000000003, l_1000000005, l_1000000011, l_1000000012, l_1000000013, l_1000000014]
      rw [e _ (by decide)]
    by_cases h3 : u = 97
    · simp (maxSteps := 1000000) (disch := omega) only [ld_i, st_i, la_i, sl_i, nI_add, pk_mul, pk_sub, ng_add, neg_neg_n, nlt, nle, neq, ng_lt, gn_lt, gg_lt, ng_le, gn_le, gg_le, ng_eq, gn_eq, gg_eq, dv_i, if_pos, if_neg, ite_tt, ite_ff, if_b2, if_b2n, l_0, l_1, l_2, l_3, l_4, l_5, l_6, l_7, l_8, l_9, l_10, l_11, l_12, l_13, l_16, l_20, l_24, l_30, l_32, l_33, l_38, l_42, l_43, l_45, l_47, l_48, l_50, l_57, l_60, l_61, l_62, l_96, l_97, l_99, l_100, l_102, l_105, l_110, l_121, l_122, l_124, l_128, l_200, l_255, l_270, l_350, l_360, l_400, l_440, l_490, l_500, l_999, l_1000, l_9999, l_10000, l_99999, l_100000, l_1000000, l_1000000001, l_1000000002, l_1000000003, l_1000000005, l_1000000011, l_1000000012, l_1000000013, l_1000000014]
      rw [e _ (by decide)]
    · simp (maxSteps := 1000000) (disch := omega) only [ld_i, st_i, la_i, sl_i, nI_add, pk_mul, pk_sub, ng_add, neg_neg_n, nlt, nle, neq, ng_lt, gn_lt, gg_lt, ng_le, gn_le, gg_le, ng_eq, gn_eq, gg_eq, dv_i, if_pos, if_neg, ite_tt, ite_ff, if_b2, if_b2n, l_0, l_1, l_2, l_3, l_4, l_5, l_6, l_7, l_8, l_9, l_10, l_11, l_12, l_13, l_16, l_20, l_24, l_30, l_32, l_33, l_38, l_42, l_43, l_45, l_47, l_48, l_50, l_57, l_60, l_61, l_62, l_96, l_97, l_99, l_100, l_102, l_105, l_110, l_121, l_122, l_124, l_128, l_200, l_255, l_270, l_350, l_360, l_400, l_440, l_490, l_500, l_999, l_1000, l_9999, l_10000, l_99999, l_100000, l_1000000, l_1000000001, l_1000000002, l_1000000003, l_1000000005, l_1000000011, l_1000000012, l_1000000013, l_1000000014]
      rw [e' _ (by decide)]
