theorem spX {nX b : Nat} {M N : Mem} (hb : b = 1 ∨ b = 31) (hX : RX nX (M (b + 8) 0) (M (b + 9)) (M (b + 10)) (M (b + 11)) (M (b + 12)) (M (b + 13)) (N 1)) (p : Nat) (hp : 0 < p) (hp2 : p < 1000) (y : Int32) : ∃ s, s ≤ 10000 ∧ OkM N (nI s) (f_X10_spreadFor 0 (nI p) y N) ∧ ∀ M' : Mem, (∀ k, 8 ≤ k → k ≤ 13 → M' (b + k) = M (b + k)) → OkC M' (nI s) (f_X6_spreadFor b (nI p) y M') := by
  have e2 := y_cnt hX (nI 12)
  have hX' : ∀ M' : Mem, (∀ k, 8 ≤ k → k ≤ 13 → M' (b + k) = M (b + k)) → RX nX (M' (b + 8) 0) (M' (b + 9)) (M' (b + 10)) (M' (b + 11)) (M' (b + 12)) (M' (b + 13)) (N 1) := fun M' hM => by
    rw [hM 8 (by omega) (by omega), hM 9 (by omega) (by omega), hM 10 (by omega) (by omega), hM 11 (by omega) (by omega), hM 12 (by omega) (by omega), hM 13 (by omega) (by omega)]
    exact hX
  cases hC : CT (N 1) (nI 12) with
  | none =>
    rw [hC] at e2
    refine ⟨10000 / p, Nat.div_le_self _ _, ?_, fun M' hM => ?_⟩
    · unfold f_X10_spreadFor
      simp (maxSteps := 1000000) (disch := omega) only [vv_e, mm_e, jn_e, bd_e, bd_i, e2_0_0, e2_0_1, e2_0_2, e2_0_4, e2_0_5, e2_0_6, e2_0_7, e2_0_8, e2_0_9, e2_0_10, e2_0_11, e2_0_12, e2_0_24, e2_0_25, e2_0_28, e2_0_29, e2_0_30, e2_0_34, e2_0_35, e2_0_36, e2_0_38, e2, orM_n', ld_i, st_i, la_i, sl_i, nI_add, pk_mul, pk_sub, ng_add, neg_neg_n, nlt, nle, neq, ng_lt, gn_lt, gg_lt, ng_le, gn_le, gg_le, ng_eq, gn_eq, gg_eq, dv_i, if_pos, if_neg, ite_tt, ite_ff, if_b2, if_b2n, l_0, l_1, l_2, l_3, l_4, l_5, l_6, l_7, l_8, l_9, l_10, l_11, l_12, l_13, l_16, l_20, l_24, l_30, l_32, l_33, l_38, l_42, l_43, l_45, l_47, l_48, l_50, l_57, l_60, l_61, l_62, l_96, l_97, l_99, l_100, l_102, l_105, l_110, l_121, l_122, l_124, l_128, l_200, l_255, l_270, l_350, l_360, l_400, l_440, l_490, l_500, l_999, l_1000, l_9999, l_10000, l_99999, l_100000, l_1000000, l_1000000001, l_1000000002, l_1000000003, l_1000000005, l_1000000011, l_1000000012, l_1000000013, l_1000000014, pk_div]
      exact OkM.mk ((Em.rfl'.u (by omega)).u (by omega))
    · have e1 := x_lat hb (hX' M' hM) 1 (nI 0) (nI 12) (Or.inr (Or.inl ⟨rfl, rfl⟩))
      rw [hC] at e1
      unfold f_X6_spreadFor
      simp (maxSteps := 1000000) (disch := omega) only [vv_e, mm_e, jn_e, bd_e, bd_i, gb_0_0, gb_0_1, gb_0_2, gb_0_3, gb_0_4, gb_0_5, gb_0_9, gb_1_1, gb_1_3, gb_1_4, gb_1_5, gb_1_6, gb_1_7, gb_8_1, gb_8_2, gb_8_3, gb_8_4, gb_8_5, gb_8_6, gb_15_0, gb_15_1, gb_18_0, gb_18_2, gb_18_3, gb_18_4, gb_23_1, gb_23_2, gb_23_3, gb_23_5, e1, orN_n', ld_i, st_i, la_i, sl_i, nI_add, pk_mul, pk_sub, ng_add, neg_neg_n, nlt, nle, neq, ng_lt, gn_lt, gg_lt, ng_le, gn_le, gg_le, ng_eq, gn_eq, gg_eq, dv_i, if_pos, if_neg, ite_tt, ite_ff, if_b2, if_b2n, l_0, l_1, l_2, l_3, l_4, l_5, l_6, l_7, l_8, l_9, l_10, l_11, l_12, l_13, l_16, l_20, l_24, l_30, l_32, l_33, l_38, l_42, l_43, l_45, l_47, l_48, l_50, l_57, l_60, l_61, l_62, l_96, l_97, l_99, l_100, l_102, l_105, l_110, l_121, l_122, l_124, l_128, l_200, l_255, l_270, l_350, l_360, l_400, l_440, l_490, l_500, l_999, l_1000, l_9999, l_10000, l_99999, l_100000, l_1000000, l_1000000001, l_1000000002, l_1000000003, l_1000000005, l_1000000011, l_1000000012, l_1000000013, l_1000000014, pk_div]
      exact OkC.mk Ec.rfl'
  | some t =>
    rw [hC] at e2
    obtain ⟨ht, hg⟩ := hX.ct_s hC
    have hk := hX.key1 ht hg
    have hn : nX ≤ 14 := hX.2.2.1
    obtain ⟨s, hs, es⟩ := hold_rg (EV (N 1) t (fun v => if v = nI 110 then nI p else y))
    refine ⟨s, by omega, ?_, fun M' hM => ?_⟩
    · unfold f_X10_spreadFor
      simp (maxSteps := 1000000) (disch := omega) only [vv_e, mm_e, jn_e, bd_e, bd_i, e2_0_0, e2_0_1, e2_0_2, e2_0_4, e2_0_5, e2_0_6, e2_0_7, e2_0_8, e2_0_9, e2_0_10, e2_0_11, e2_0_12, e2_0_24, e2_0_25, e2_0_28, e2_0_29, e2_0_30, e2_0_34, e2_0_35, e2_0_36, e2_0_38, e2, orM_s, ld_i, st_i, la_i, sl_i, nI_add, pk_mul, pk_sub, ng_add, neg_neg_n, nlt, nle, neq, ng_lt, gn_lt, gg_lt, ng_le, gn_le, gg_le, ng_eq, gn_eq, gg_eq, dv_i, if_pos, if_neg, ite_tt, ite_ff, if_b2, if_b2n, l_0, l_1, l_2, l_3, l_4, l_5, l_6, l_7, l_8, l_9, l_10, l_11, l_12, l_13, l_16, l_20, l_24, l_30, l_32, l_33, l_38, l_42, l_43, l_45, l_47, l_48, l_50, l_57, l_60, l_61, l_62, l_96, l_97, l_99, l_100, l_102, l_105, l_110, l_121, l_122, l_124, l_128, l_200, l_255, l_270, l_350, l_360, l_400, l_440, l_490, l_500, l_999, l_1000, l_9999, l_10000, l_99999, l_100000, l_1000000, l_1000000001, l_1000000002, l_1000000003, l_1000000005, l_1000000011, l_1000000012, l_1000000013, l_1000000014]
      have eE : Em N (up (up N 13 110 (nI p)) 13 121 y) := (Em.rfl'.u (by omega)).u (by omega)
      refine OkM.tr eE ?_
      refine OkM.then (RX.wrk (N := up (up N 13 110 (nI p)) 13 121 y) hX ht (fun v => if v = nI 110 then nI p else y) (fun i u hu => ?_)) (fun N' e => ?_)
      · rw [hk] at hu
        rcases hu with ⟨q, -⟩ | ⟨-, ⟨rfl, rfl⟩ | ⟨rfl, rfl⟩⟩ | ⟨q, -⟩
        · exact absurd q (by decide)
        · rw [if_pos rfl, up_k _ _ _ _ _ (by decide), up_same]
        · rw [if_neg (by decide), up_same]
        · exact absurd q (by decide)
      · show OkM _ (nI s) (bd (f_X10_heldIn (EV (N 1) t (fun v => if v = nI 110 then nI p else y)) (nI 9999) N') _)
        simp only [vv_e, mm_e, jn_e, bd_e, bd_i, y_held, es]
        exact OkM.mk e
    · have e1 := x_lat hb (hX' M' hM) 1 (nI 0) (nI 12) (Or.inr (Or.inl ⟨rfl, rfl⟩))
      rw [hC] at e1
      have hk' : M' (b + 9) t = 1 := (hX' M' hM).key1 ht hg
      unfold f_X6_spreadFor
      simp (maxSteps := 1000000) (disch := omega) only [vv_e, mm_e, jn_e, bd_e, bd_i, gb_0_0, gb_0_1, gb_0_2, gb_0_3, gb_0_4, gb_0_5, gb_0_9, gb_1_1, gb_1_3, gb_1_4, gb_1_5, gb_1_6, gb_1_7, gb_8_1, gb_8_2, gb_8_3, gb_8_4, gb_8_5, gb_8_6, gb_15_0, gb_15_1, gb_18_0, gb_18_2, gb_18_3, gb_18_4, gb_23_1, gb_23_2, gb_23_3, gb_23_5, e1, orN_s, ld_i, st_i, la_i, sl_i, nI_add, pk_mul, pk_sub, ng_add, neg_neg_n, nlt, nle, neq, ng_lt, gn_lt, gg_lt, ng_le, gn_le, gg_le, ng_eq, gn_eq, gg_eq, dv_i, if_pos, if_neg, ite_tt, ite_ff, if_b2, if_b2n, l_0, l_1, l_2, l_3, l_4, l_5, l_6, l_7, l_8, l_9, l_10, l_11, l_12, l_13, l_16, l_20, l_24, l_30, l_32, l_33, l_38, l_42, l_43, l_45, l_47, l_48, l_50, l_57, l_60, l_61, l_62, l_96, l_97, l_99, l_100, l_102, l_105, l_110, l_121, l_122, l_124, l_128, l_200, l_255, l_270, l_350, l_360, l_400, l_440, l_490, l_500, l_999, l_1000, l_9999, l_10000, l_99999, l_100000, l_1000000, l_1000000001, l_1000000002, l_1000000003, l_1000000005, l_1000000011, l_1000000012, l_1000000013, l_1000000014]
      refine OkC.then ((hX' M' hM).giv hb ht (fun v => if v = nI 110 then nI p else y) (nI p) y _ (fun i u hu => ?_)) (fun M2 e => ?_)
      · rw [hk'] at hu
        rcases hu with ⟨q, -⟩ | ⟨-, ⟨rfl, rfl⟩ | ⟨rfl, rfl⟩⟩ | ⟨q, -⟩
        · exact absurd q (by decide)
        · exact Or.inl ⟨rfl, if_pos rfl⟩
        · exact Or.inr (Or.inl ⟨rfl, if_neg (by decide)⟩)
        · exact absurd q (by decide)
      · simp only [vv_e, mm_e, jn_e, bd_e, bd_i, x_hold, es]
        exact OkC.mk e
/-! drawing -/
def zN (z : Int32) : Nat → Int32
  | 0 => z
  | k + 1 => zN z k * 1103515245 + 12345
def dval (bs s : Nat) (z : Int32) : Int32 := hold ((nI bs - nI s) + (jr (js z (nI 8)) (nI (2 * s + 1))))
theorem dval_rg (bs s : Nat) (z : Int32) : ∃ v, v < 10000 ∧ dval bs s z = nI v := by
  obtain ⟨v, hv, e⟩ := hold_rg ((nI bs - nI s) + (jr (js z (nI 8)) (nI (2 * s + 1))))
  exact ⟨v, by omega, e⟩
def notS (a : Nat) : Prop := a ≠ 15 ∧ a ≠ 23 ∧ a ≠ 30 ∧ a ≠ 45 ∧ a ≠ 53 ∧ a ≠ 60
theorem x_drawLand {b s t p bs : Nat} {z : Int32} {M : Mem} (hb : b = 1 ∨ b = 31) (ht : t ≤ 12) (hs : s ≤ 10000) (hS : OkC M (nI s) (f_X6_spreadFor b (nI p) (nI 0) M)) (hbs : M b 7 = nI bs) (hz : M b 8 = z) : Res (fun r M' => M' b 8 = zN z t ∧ (∀ f, f ≠ 8 → M' b f = M b f) ∧ (∀ j, j < t → M' (b + 29) j = dval bs s (zN z (j + 1))) ∧ ∀ a, a ≠ b → notS a → M' a = M a) (f_X6_drawLand b (nI t) (nI p) M) := by
  unfold f_X6_drawLand f_X6_draw
  rw [l_0]
  refine OkC.then hS (fun M1 E => ?_)
  have E' : ∀ a, notS a → M1 a = M a := fun a ha => E a ha.1 ha.2.1 ha.2.2.1 ha.2.2.2.1 ha.2.2.2.2.1 ha.2.2.2.2.2
  have hbn : notS b := by unfold notS; omega
  simp (maxSteps := 1000000) (disch := omega) only [vv_e, mm_e, jn_e, bd_e, bd_i, gb_0_0, gb_0_1, gb_0_2, gb_0_3, gb_0_4, gb_0_5, gb_0_9, gb_1_1, gb_1_3, gb_1_4, gb_1_5, gb_1_6, gb_1_7, gb_8_1, gb_8_2, gb_8_3, gb_8_4, gb_8_5, gb_8_6, gb_15_0, gb_15_1, gb_18_0, gb_18_2, gb_18_3, gb_18_4, gb_23_1, gb_23_2, gb_23_3, gb_23_5, ld_i, st_i, la_i, sl_i, nI_add, pk_mul, pk_sub, ng_add, neg_neg_n, nlt, nle, neq, ng_lt, gn_lt, gg_lt, ng_le, gn_le, gg_le, ng_eq, gn_eq, gg_eq, dv_i, if_pos, if_neg, ite_tt, ite_ff, if_b2, if_b2n, l_0, l_1, l_2, l_3, l_4, l_5, l_6, l_7, l_8, l_9, l_10, l_11, l_12, l_13, l_16, l_20, l_24, l_30, l_32, l_33, l_38, l_42, l_43, l_45, l_47, l_48, l_50, l_57, l_60, l_61, l_62, l_96, l_97, l_99, l_100, l_102, l_105, l_110, l_121, l_122, l_124, l_128, l_200, l_255, l_270, l_350, l_360, l_400, l_440, l_490, l_500, l_999, l_1000, l_9999, l_10000, l_99999, l_100000, l_1000000, l_1000000001, l_1000000002, l_1000000003, l_1000000005, l_1000000011, l_1000000012, l_1000000013, l_1000000014]
  refine lo1 (fun n y M' => ∃ k, k + n = t ∧ y = nI k ∧ M' b 8 = zN z k ∧ (∀ f, f ≠ 8 → M' b f = M b f) ∧ (∀ j, j < k → M' (b + 29) j = dval bs s (zN z (j + 1))) ∧ ∀ a, a ≠ b → notS a → M' a = M a) ?_ fuel t _ M1 (by show t < 5000; omega) ⟨0, by omega, rfl, by rw [E' b hbn]; exact hz, fun f hf => by rw [E' b hbn], fun j hj => absurd hj (Nat.not_lt_zero j), fun a _ ha => E' a ha⟩
  rintro n rc _ M' ⟨k, hk, rfl, h1, h2, h3, h4⟩ ih
  by_cases hkt : k = t
  · subst hkt
    simp (maxSteps := 1000000) (disch := omega) only [ld_i, st_i, la_i, sl_i, nI_add, pk_mul, pk_sub, ng_add, neg_neg_n, nlt, nle, neq, ng_lt, gn_lt, gg_lt, ng_le, gn_le, gg_le, ng_eq, gn_eq, gg_eq, dv_i, if_pos, if_neg, ite_tt, ite_ff, if_b2, if_b2n, l_0, l_1, l_2, l_3, l_4, l_5, l_6, l_7, l_8, l_9, l_10, l_11, l_12, l_13, l_16, l_20, l_24, l_30, l_32, l_33, l_38, l_42, l_43, l_45, l_47, l_48, l_50, l_57, l_60, l_61, l_62, l_96, l_97, l_99, l_100, l_102, l_105, l_110, l_121, l_122, l_124, l_128, l_200, l_255, l_270, l_350, l_360, l_400, l_440, l_490, l_500, l_999, l_1000, l_9999, l_10000, l_99999, l_100000, l_1000000, l_1000000001, l_1000000002, l_1000000003, l_1000000005, l_1000000011, l_1000000012, l_1000000013, l_1000000014]
    exact Res.mk ⟨h1, h2, h3, h4⟩
  have h7 : M' b 7 = nI bs := by rw [h2 7 (by decide)]; exact hbs
  simp (maxSteps := 1000000) (disch := omega) only [vv_e, mm_e, jn_e, bd_e, bd_i, ld_i, st_i, la_i, sl_i, nI_add, pk_mul, pk_sub, ng_add, neg_neg_n, nlt, nle, neq, ng_lt, gn_lt, gg_lt, ng_le, gn_le, gg_le, ng_eq, gn_eq, gg_eq, dv_i, if_pos, if_neg, ite_tt, ite_ff, if_b2, if_b2n, l_0, l_1, l_2, l_3, l_4, l_5, l_6, l_7, l_8, l_9, l_10, l_11, l_12, l_13, l_16, l_20, l_24, l_30, l_32, l_33, l_38, l_42, l_43, l_45, l_47, l_48, l_50, l_57, l_60, l_61, l_62, l_96, l_97, l_99, l_100, l_102, l_105, l_110, l_121, l_122, l_124, l_128, l_200, l_255, l_270, l_350, l_360, l_400, l_440, l_490, l_500, l_999, l_1000, l_9999, l_10000, l_99999, l_100000, l_1000000, l_1000000001, l_1000000002, l_1000000003, l_1000000005, l_1000000011, l_1000000012, l_1000000013, l_1000000014, up_a, up_k, up_same, x_hold, h1, h7]
  refine ih (n - 1) _ _ (by omega) ⟨k + 1, by omega, rfl, ?_, fun f hf => ?_, fun j hj => ?_, fun a ha hn => ?_⟩
  · rw [up_a _ _ _ _ _ _ (by omega), up_same]
    rfl
  · rw [up_a _ _ _ _ _ _ (by omega), up_k _ _ _ _ _ hf]
    exact h2 f hf
  · by_cases hjk : j = k
    · subst hjk
      rw [up_same]
      rfl
    · rw [up_k _ _ _ _ _ hjk, up_a _ _ _ _ _ _ (by omega)]
      exact h3 j (by omega)
  · have : a ≠ b + 29 := by unfold notS at hn; omega
    rw [up_ne this, up_ne ha]
    exact h4 a ha hn
theorem y_drawn {s bs : Nat} {z : Int32} {N : Mem} (hs : s ≤ 10000) (h7 : N 1 7 = z) (h8 : N 1 8 = nI bs) : f_X10_drawn 0 (nI s) N = some (dval bs s (z * 1103515245 + 12345), up N 1 7 (z * 1103515245 + 12345)) := by
  unfold f_X10_drawn
  simp (maxSteps := 1000000) (disch := omega) only [vv_e, mm_e, jn_e, bd_e, bd_i, e2_0_0, e2_0_1, e2_0_2, e2_0_4, e2_0_5, e2_0_6, e2_0_7, e2_0_8, e2_0_9, e2_0_10, e2_0_11, e2_0_12, e2_0_24, e2_0_25, e2_0_28, e2_0_29, e2_0_30, e2_0_34, e2_0_35, e2_0_36, e2_0_38, ld_i, st_i, la_i, sl_i, nI_add, pk_mul, pk_sub, ng_add, neg_neg_n, nlt, nle, neq, ng_lt, gn_lt, gg_lt, ng_le, gn_le, gg_le, ng_eq, gn_eq, gg_eq, dv_i, if_pos, if_neg, ite_tt, ite_ff, if_b2, if_b2n, l_0, l_1, l_2, l_3, l_4, l_5, l_6, l_7, l_8, l_9, l_10, l_11, l_12, l_13, l_16, l_20, l_24, l_30, l_32, l_33, l_38, l_42, l_43, l_45, l_47, l_48, l_50, l_57, l_60, l_61, l_62, l_96, l_97, l_99, l_100, l_102, l_105, l_110, l_121, l_122, l_124, l_128, l_200, l_255, l_270, l_350, l_360, l_400, l_440, l_490, l_500, l_999, l_1000, l_9999, l_10000, l_99999, l_100000, l_1000000, l_1000000001, l_1000000002, l_1000000003, l_1000000005, l_1000000011, l_1000000012, l_1000000013, l_1000000014, up_a, up_k, up_same, h7, h8, y_held]
  rfl
theorem s_land (p : Int32) (M : Mem) : f_X9_areLandTables p M = some (b2 (2 ≤ p ∧ p ≤ 12), M) := by
  unfold f_X9_areLandTables
  simp only [s_within, vv_d, mm_d, jn_d, bd_d, bd_i]
