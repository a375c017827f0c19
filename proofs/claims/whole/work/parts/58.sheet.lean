theorem sh_ar (n : Nat) (h : n < 2 ^ 32) : ((n * 2 ^ 16 % 2 ^ 32 : Nat) : Int).bmod (2 ^ 32) / ((2 ^ 16 : Nat) : Int) = ((n : Int).bmod (2 ^ 32)).bmod (2 ^ 16) := by
  rw [show (2 : Nat) ^ 32 = 4294967296 from rfl] at h ⊢
  rw [show (2 : Nat) ^ 16 = 65536 from rfl]
  rw [Int.bmod_bmod_of_dvd (by decide)]
  simp only [Int.bmod_def]
  omega
theorem short_n (p : Int32) : (p <<< nI 16) >>> nI 16 = Int16.toInt32 (Int32.toInt16 p) := by
  apply Int32.toInt_inj.mp
  have h1 : (p <<< nI 16).toBitVec.toNat = p.toBitVec.toNat * 2 ^ 16 % 2 ^ 32 := pk_shl p (nI 16) 16 rfl
  have h2 : (p <<< nI 16).toInt = ((p <<< nI 16).toBitVec.toNat : Int).bmod (2 ^ 32) := BitVec.toInt_eq_toNat_bmod _
  have h3 : p.toInt = (p.toBitVec.toNat : Int).bmod (2 ^ 32) := BitVec.toInt_eq_toNat_bmod _
  rw [pk_shr _ (nI 16) 16 rfl, h2, h1, Int16.toInt_toInt32, Int32.toInt_toInt16, h3]
  have h4 := p.toBitVec.isLt
  generalize p.toBitVec.toNat = n at h4
  rw [Int.shiftRight_eq_div_pow]
  exact sh_ar n h4
theorem i64_m1 : Int32.toInt64 (-1) = (-1 : Int64) := Int64.toInt_inj.mp (by rw [Int32.toInt_toInt64]; rfl)
theorem i64_m9 : Int32.toInt64 (-99999) = (-99999 : Int64) := Int64.toInt_inj.mp (by rw [Int32.toInt_toInt64]; rfl)
theorem inv_sheet {M N M' N' : Mem} (h : Inv M N) {i : Nat} (hi : i < 4) (hM : ∀ a, a ≠ 66 + 2 * i → a ≠ 67 + 2 * i → M' a = M a) (hN : ∀ a, a ≠ 4 → a ≠ 5 → a ≠ 6 → a ≠ 19 → N' a = N a) (h4 : ∀ j, j ≠ i → N' 4 j = N 4 j) (h5 : ∀ j, j ≠ i → N' 5 j = N 5 j) (h6 : ∀ j, j < 24 * i ∨ 24 * i + 24 ≤ j → N' 6 j = N 6 j) (hR : RH (M' (66 + 2 * i) 0) (M' (66 + 2 * i) 1) (M' (67 + 2 * i)) (N' 4 i) (N' 5 i) (N' 6) i) : Inv M' N' := by
  obtain ⟨hS, hI, hB, hH, hP, hW⟩ := id h
  refine inv_out h (fun a h1 h2 => hM a (by omega) (by omega)) (by rw [hM 0 (by omega) (by omega)]) (by rw [hN 0 (by omega) (by omega) (by omega) (by omega)]) (fun a ha => hN a (by omega) (by omega) (by omega) (by omega)) ?_ (fun i' hi' => ?_) (fun i' hi' => ?_) ?_
  · rw [hM 61 (by omega) (by omega), hM 62 (by omega) (by omega), hN 0 (by omega) (by omega) (by omega) (by omega), hN 12 (by omega) (by omega) (by omega) (by omega)]
    exact hB
  · by_cases e : i' = i
    · subst e
      exact hR
    · obtain ⟨a1, a2, a3, a4, a5⟩ := hH i' hi'
      rw [hM (66 + 2 * i') (by omega) (by omega), hM (67 + 2 * i') (by omega) (by omega), h4 i' e, h5 i' e]
      exact ⟨a1, a2, a3, a4, fun j hj => by rw [h6 _ (by omega)]; exact a5 j hj⟩
  · rw [hM (75 + 3 * i') (by omega) (by omega), hM (76 + 3 * i') (by omega) (by omega), hM (77 + 3 * i') (by omega) (by omega), hN 7 (by omega) (by omega) (by omega) (by omega), hN 8 (by omega) (by omega) (by omega) (by omega), hN 9 (by omega) (by omega) (by omega) (by omega), hN 10 (by omega) (by omega) (by omega) (by omega), hN 11 (by omega) (by omega) (by omega) (by omega)]
    exact hP i' hi'
  · rw [hM 0 (by omega) (by omega), hM 64 (by omega) (by omega), hN 0 (by omega) (by omega) (by omega) (by omega), hN 20 (by omega) (by omega) (by omega) (by omega)]
    exact hW
theorem x_renew (o c : Nat) (hc : grf G1 o 2 = c) (p q : Int32) (M : Mem) : Res (fun r M' => r = q ∧ (c ≠ o → M' o 0 = p ∧ M' o 1 = q) ∧ (∀ j, j < 24 → M' c j = nI 0) ∧ ∀ a, a ≠ o → a ≠ c → M' a = M a) (f_X4_renew o p q M) := by
  unfold f_X4_renew
  simp only [vv_e, mm_e, jn_e, bd_e, bd_i, hc]
  refine lo1 (fun m y M' => ∃ k, k + m = 24 ∧ y = nI k ∧ (c ≠ o → M' o 0 = p ∧ M' o 1 = q) ∧ (∀ j, j < k → M' c j = nI 0) ∧ ∀ a, a ≠ o → a ≠ c → M' a = M a) ?_ fuel 24 _ _ (by decide) ⟨0, by omega, rfl, fun _ => ⟨by rw [up_k _ _ _ _ _ (by decide), up_same], up_same _ _ _ _⟩, fun j hj => absurd hj (Nat.not_lt_zero j), fun a h1 h2 => by rw [up_ne h1, up_ne h1]⟩
  rintro m rc _ M' ⟨k, hk, rfl, h1, h2, h3⟩ ih
  by_cases hk24 : k = 24
  · subst hk24
    simp (maxSteps := 1000000) (disch := omega) only [ld_i, st_i, la_i, sl_i, nI_add, pk_mul, pk_sub, ng_add, neg_neg_n, nlt, nle, neq, ng_lt, gn_lt, gg_lt, ng_le, gn_le, gg_le, ng_eq, gn_eq, gg_eq, dv_i, if_pos, if_neg, ite_tt, ite_ff, if_b2, if_b2n, l_0, l_1, l_2, l_3, l_4, l_5, l_6, l_7, l_8, l_9, l_10, l_11, l_12, l_13, l_16, l_20, l_24, l_30, l_32, l_33, l_38, l_42, l_43, l_45, l_47, l_48, l_50, l_57, l_60, l_61, l_62, l_96, l_97, l_99, l_100, l_102, l_105, l_110, l_121, l_122, l_124, l_128, l_200, l_255, l_270, l_350, l_360, l_400, l_440, l_490, l_500, l_999, l_1000, l_9999, l_10000, l_99999, l_100000, l_1000000, l_1000000001, l_1000000002, l_1000000003, l_1000000005, l_1000000011, l_1000000012, l_1000000013, l_1000000014]
    exact Res.mk ⟨rfl, h1, h2, h3⟩
  simp (maxSteps := 1000000) (disch := omega) only [ld_i, st_i, la_i, sl_i, nI_add, pk_mul, pk_sub, ng_add, neg_neg_n, nlt, nle, neq, ng_lt, gn_lt, gg_lt, ng_le, gn_le, gg_le, ng_eq, gn_eq, gg_eq, dv_i, if_pos, if_neg, ite_tt, ite_ff, if_b2, if_b2n, l_0, l_1, l_2, l_3, l_4, l_5, l_6, l_7, l_8, l_9, l_10, l_11, l_12, l_13, l_16, l_20, l_24, l_30, l_32, l_33, l_38, l_42, l_43, l_45, l_47, l_48, l_50, l_57, l_60, l_61, l_62, l_96, l_97, l_99, l_100, l_102, l_105, l_110, l_121, l_122, l_124, l_128, l_200, l_255, l_270, l_350, l_360, l_400, l_440, l_490, l_500, l_999, l_1000, l_9999, l_10000, l_99999, l_100000, l_1000000, l_1000000001, l_1000000002, l_1000000003, l_1000000005, l_1000000011, l_1000000012, l_1000000013, l_1000000014]
  refine ih (m - 1) _ _ (by omega) ⟨k + 1, by omega, rfl, fun hco => ?_, fun j hj => ?_, fun a g1 g2 => ?_⟩
  · rw [up_a _ _ _ _ _ _ (Ne.symm hco), up_a _ _ _ _ _ _ (Ne.symm hco)]
    exact h1 hco
  · by_cases hjk : j = k
    · subst hjk
      exact up_same _ _ _ _
    · rw [up_k _ _ _ _ _ hjk]
      exact h2 j (by omega)
  · rw [up_ne g2]
    exact h3 a g1 g2
theorem sort_cases {p : Int32} (h : -1 ≤ p ∧ p ≤ 1) : p = -nI 1 ∨ p = nI 0 ∨ p = nI 1 := by
  have h1 : (-1 : Int) ≤ p.toInt := Int32.le_iff_toInt_le.mp h.1
  have h2 : p.toInt ≤ (1 : Int) := Int32.le_iff_toInt_le.mp h.2
  rcases (show p.toInt = -1 ∨ p.toInt = 0 ∨ p.toInt = 1 by omega) with e | e | e
  · exact Or.inl (Int32.toInt_inj.mp e)
  · exact Or.inr (Or.inl (Int32.toInt_inj.mp e))
  · exact Or.inr (Or.inr (Int32.toInt_inj.mp e))
/-- the model's sheet laid anew -/
theorem y_renew (i : Nat) (hi : i < 4) (so sz : Int32) (N : Mem) : Res (fun r N' => r = sz ∧ N' 4 = upd (N 4) i so ∧ N' 5 = upd (N 5) i sz ∧ (∀ j, j < 24 → N' 6 (24 * i + j) = nI 0) ∧ (∀ j, j < 24 * i ∨ 24 * i + 24 ≤ j → N' 6 j = N 6 j) ∧ ∀ a, a ≠ 4 → a ≠ 5 → a ≠ 6 → N' a = N a)
    (it1 (fun (rc10 : Int32 → Mem → Option (Int32 × Mem)) (v9 : Int32) (M : Mem) => if v9 < 24 then vv (grf G2 0 6) fun x13 => st M x13 ((24 * nI i) + v9) 96 0 fun M => rc10 (v9 + 1) M else vv (grf G2 0 5) fun x11 => ld M x11 (nI i) 4 fun x12 => some (x12, M)) fuel 0 (up (up N 4 i so) 5 i sz)) := by
  refine lo1 (fun m y N' => ∃ k, k + m = 24 ∧ y = nI k ∧ N' 4 = upd (N 4) i so ∧ N' 5 = upd (N 5) i sz ∧ (∀ j, j < k → N' 6 (24 * i + j) = nI 0) ∧ (∀ j, j < 24 * i ∨ 24 * i + 24 ≤ j → N' 6 j = N 6 j) ∧ ∀ a, a ≠ 4 → a ≠ 5 → a ≠ 6 → N' a = N a) ?_ fuel 24 _ _ (by decide) ⟨0, by omega, rfl, ?_, ?_, fun j hj => absurd hj (Nat.not_lt_zero j), fun j hj => by rw [up_a _ _ _ _ _ _ (by decide), up_a _ _ _ _ _ _ (by decide)], fun a h1 h2 h3 => by rw [up_ne h2, up_ne h1]⟩
  · rintro m rc _ N' ⟨k, hk, rfl, h1, h2, h3, h4, h5⟩ ih
    by_cases hk24 : k = 24
    · subst hk24
      simp (maxSteps := 1000000) (disch := omega) only [vv_e, mm_e, jn_e, bd_e, bd_i, e2_0_0, e2_0_1, e2_0_2, e2_0_4, e2_0_5, e2_0_6, e2_0_7, e2_0_8, e2_0_9, e2_0_10, e2_0_11, e2_0_12, e2_0_24, e2_0_25, e2_0_28, e2_0_29, e2_0_30, e2_0_34, e2_0_35, e2_0_36, e2_0_38, ld_i, st_i, la_i, sl_i, nI_add, pk_mul, pk_sub, ng_add, neg_neg_n, nlt, nle, neq, ng_lt, gn_lt, gg_lt, ng_le, gn_le, gg_le, ng_eq, gn_eq, gg_eq, dv_i, if_pos, if_neg, ite_tt, ite_ff, if_b2, if_b2n, l_0, l_1, l_2, l_3, l_4, l_5, l_6, l_7, l_8, l_9, l_10, l_11, l_12, l_13, l_16, l_20, l_24, l_30, l_32, l_33, l_38, l_42, l_43, l_45, l_47, l_48, l_50, l_57, l_60, l_61, l_62, l_96, l_97, l_99, l_100, l_102, l_105, l_110, l_121, l_122, l_124, l_128, l_200, l_255, l_270, l_350, l_360, l_400, l_440, l_490, l_500, l_999, l_1000, l_9999, l_10000, l_99999, l_100000, l_1000000, l_1000000001, l_1000000002, l_1000000003, l_1000000005, l_1000000011, l_1000000012, l_1000000013, l_1000000014]
      exact Res.mk ⟨by rw [h2, upd_s], h1, h2, h3, h4, h5⟩
    simp (maxSteps := 1000000) (disch := omega) only [vv_e, mm_e, jn_e, bd_e, bd_i, e2_0_0, e2_0_1, e2_0_2, e2_0_4, e2_0_5, e2_0_6, e2_0_7, e2_0_8, e2_0_9, e2_0_10, e2_0_11, e2_0_12, e2_0_24, e2_0_25, e2_0_28, e2_0_29, e2_0_30, e2_0_34, e2_0_35, e2_0_36, e2_0_38, ld_i, st_i, la_i, sl_i, nI_add, pk_mul, pk_sub, ng_add, neg_neg_n, nlt, nle, neq, ng_lt, gn_lt, gg_lt, ng_le, gn_le, gg_le, ng_eq, gn_eq, gg_eq, dv_i, if_pos, if_neg, ite_tt, ite_ff, if_b2, if_b2n, l_0, l_1, l_2, l_3, l_4, l_5, l_6, l_7, l_8, l_9, l_10, l_11, l_12, l_13, l_16, l_20, l_24, l_30, l_32, l_33, l_38, l_42, l_43, l_45, l_47, l_48, l_50, l_57, l_60, l_61, l_62, l_96, l_97, l_99, l_100, l_102, l_105, l_110, l_121, l_122, l_124, l_128, l_200, l_255, l_270, l_350, l_360, l_400, l_440, l_490, l_500, l_999, l_1000, l_9999, l_10000, l_99999, l_100000, l_1000000, l_1000000001, l_1000000002, l_1000000003, l_1000000005, l_1000000011, l_1000000012, l_1000000013, l_1000000014]
    refine ih (m - 1) _ _ (by omega) ⟨k + 1, by omega, rfl, by rw [up_ne (by decide)]; exact h1, by rw [up_ne (by decide)]; exact h2, fun j hj => ?_, fun j hj => ?_, fun a g1 g2 g3 => by rw [up_ne g3]; exact h5 a g1 g2 g3⟩
    · by_cases hjk : j = k
      · subst hjk
        exact up_same _ _ _ _
      · rw [up_k _ _ _ _ _ (by omega)]
        exact h3 j (by omega)
    · rw [up_k _ _ _ _ _ (by omega)]
      exact h4 j hj
  · rw [up_ne (by decide), up_at]
  · rw [up_at, up_ne (by decide)]
theorem op_sheet : ∀ (p q r : Int32) (M N : Mem), Inv M N → Same (f_X9_sheet 0 p q r M) (f_X10_sheet 0 p q r N) := by
  intro p q r M N h
  unfold f_X9_sheet f_X10_sheet
  generalize hL : it1 (fun (rc10 : Int32 → Mem → Option (Int32 × Mem)) (v9 : Int32) (M : Mem) => if v9 < 24 then vv (grf G2 0 6) fun x13 => st M x13 ((24 * p) + v9) 96 0 fun M => rc10 (v9 + 1) M else vv (grf G2 0 5) fun x11 => ld M x11 p 4 fun x12 => some (x12, M)) fuel = LL
  simp only [vv_e, mm_e, jn_e, bd_e, bd_i, e1_0_0, e1_0_1, e1_0_3, e1_0_4, e1_0_6, e1_0_7, e1_1_0, e1_1_1, e1_1_2, e1_1_3, e1_1_4, e1_1_5, e1_1_9, e1_2_1, e1_2_3, e1_2_4, e1_2_5, e1_2_6, e1_2_7, e1_9_1, e1_9_2, e1_9_3, e1_9_4, e1_9_5, e1_9_6, e1_16_0, e1_16_1, e1_19_0, e1_19_2, e1_19_3, e1_19_4, e1_24_1, e1_24_2, e1_24_3, e1_24_5, e1_61_0, e1_61_6, e2_0_0, e2_0_1, e2_0_2, e2_0_4, e2_0_5, e2_0_6, e2_0_7, e2_0_8, e2_0_9, e2_0_10, e2_0_11, e2_0_12, e2_0_24, e2_0_25, e2_0_28, e2_0_29, e2_0_30, e2_0_34, e2_0_35, e2_0_36, e2_0_38, s_isSheet, y_isSheet, s_within, if_b2, s_isInL q (-1) 1 (-1) 1 N i64_m1 rfl]
  by_cases hp : 0 ≤ p ∧ p ≤ 3
  case neg =>
    rw [if_neg hp, if_neg hp]
    exact Same.mk h
  rw [if_pos hp, if_pos hp]
  obtain ⟨i, hi, rfl⟩ := rgN (c := 3) (by decide) hp
  by_cases hq : -1 ≤ q ∧ q ≤ 1
  case neg =>
    rw [if_neg hq, if_neg hq]
    exact Same.mk h
  rw [if_pos hq, if_pos hq]
  obtain ⟨gs1, gs2⟩ := g_sheet i (by omega)
  have fin : ∀ (so : Int32) (sz : Nat), (so = -1 ∨ so = 0 ∨ so = 1) → sz ≤ 24 → Same (bd (f_X4_renew (66 + 2 * i) so (nI sz) M) fun x M => some (x, M)) (LL (nI 0) (up (up N 4 i so) 5 i (nI sz))) := by
    intro so sz hso hsz
    rw [bd_v, ← hL]
    obtain ⟨r1, M', e1, rfl, c1, c2, c3⟩ := x_renew (66 + 2 * i) (67 + 2 * i) gs2 so (nI sz) M
    obtain ⟨r2, N', e2, rfl, d1, d2, d3, d4, d5⟩ := y_renew i (by omega) so (nI sz) N
    obtain ⟨c4, c5⟩ := c1 (by omega)
    refine ⟨_, M', N', e1, e2, inv_sheet h (i := i) (by omega) c3 (fun a g1 g2 g3 g4 => d5 a g1 g2 g3) (fun j hj => by rw [d1, upd_n hj]) (fun j hj => by rw [d2, upd_n hj]) d4 ?_⟩
    rw [c4, c5, d1, d2, upd_s, upd_s]
    exact ⟨rfl, rfl, hso, ⟨sz, by omega, rfl⟩, fun j hj => by rw [d3 j hj, c2 j hj]⟩
  rcases sort_cases hq with rfl | rfl | rfl
  · simp (maxSteps := 1000000) (disch := omega) only [vv_e, mm_e, jn_e, bd_e, bd_i, ld_i, st_i, la_i, sl_i, nI_add, pk_mul, pk_sub, ng_add, neg_neg_n, nlt, nle, neq, ng_lt, gn_lt, gg_lt, ng_le, gn_le, gg_le, ng_eq, gn_eq, gg_eq, dv_i, if_pos, if_neg, ite_tt, ite_ff, if_b2, if_b2n, l_0, l_1, l_2, l_3, l_4, l_5, l_6, l_7, l_8, l_9, l_10, l_11, l_12, l_13, l_16, l_20, l_24, l_30, l_32, l_33, l_38, l_42, l_43, l_45, l_47, l_48, l_50, l_57, l_60, l_61, l_62, l_96, l_97, l_99, l_100, l_102, l_105, l_110, l_121, l_122, l_124, l_128, l_200, l_255, l_270, l_350, l_360, l_400, l_440, l_490, l_500, l_999, l_1000, l_9999, l_10000, l_99999, l_100000, l_1000000, l_1000000001, l_1000000002, l_1000000003, l_1000000005, l_1000000011, l_1000000012, l_1000000013, l_1000000014, gs1]
    exact fin (-nI 1) 0 (Or.inl rfl) (by omega)
  · by_cases h24 : nI 24 < r
    · simp (maxSteps := 1000000) (disch := omega) only [vv_e, mm_e, jn_e, bd_e, bd_i, ld_i, st_i, la_i, sl_i, nI_add, pk_mul, pk_sub, ng_add, neg_neg_n, nlt, nle, neq, ng_lt, gn_lt, gg_lt, ng_le, gn_le, gg_le, ng_eq, gn_eq, gg_eq, dv_i, if_pos, if_neg, ite_tt, ite_ff, if_b2, if_b2n, l_0, l_1, l_2, l_3, l_4, l_5, l_6, l_7, l_8, l_9, l_10, l_11, l_12, l_13, l_16, l_20, l_24, l_30, l_32, l_33, l_38, l_42, l_43, l_45, l_47, l_48, l_50, l_57, l_60, l_61, l_62, l_96, l_97, l_99, l_100, l_102, l_105, l_110, l_121, l_122, l_124, l_128, l_200, l_255, l_270, l_350, l_360, l_400, l_440, l_490, l_500, l_999, l_1000, l_9999, l_10000, l_99999, l_100000, l_1000000, l_1000000001, l_1000000002, l_1000000003, l_1000000005, l_1000000011, l_1000000012, l_1000000013, l_1000000014, gs1, h24]
      exact Same.mk h
    by_cases h0 : r < nI 0
    · simp (maxSteps := 1000000) (disch := omega) only [vv_e, mm_e, jn_e, bd_e, bd_i, ld_i, st_i, la_i, sl_i, nI_add, pk_mul, pk_sub, ng_add, neg_neg_n, nlt, nle, neq, ng_lt, gn_lt, gg_lt, ng_le, gn_le, gg_le, ng_eq, gn_eq, gg_eq, dv_i, if_pos, if_neg, ite_tt, ite_ff, if_b2, if_b2n, l_0, l_1, l_2, l_3, l_4, l_5, l_6, l_7, l_8, l_9, l_10, l_11, l_12, l_13, l_16, l_20, l_24, l_30, l_32, l_33, l_38, l_42, l_43, l_45, l_47, l_48, l_50, l_57, l_60, l_61, l_62, l_96, l_97, l_99, l_100, l_102, l_105, l_110, l_121, l_122, l_124, l_128, l_200, l_255, l_270, l_350, l_360, l_400, l_440, l_490, l_500, l_999, l_1000, l_9999, l_10000, l_99999, l_100000, l_1000000, l_1000000001, l_1000000002, l_1000000003, l_1000000005, l_1000000011, l_1000000012, l_1000000013, l_1000000014, gs1, h24, h0]
      exact Same.mk h
    obtain ⟨n, hn, rfl⟩ := nI_of (x := r) h0
    rw [nlt (by omega) hn] at h24
    simp (maxSteps := 1000000) (disch := omega) only [vv_e, mm_e, jn_e, bd_e, bd_i, ld_i, st_i, la_i, sl_i, nI_add, pk_mul, pk_sub, ng_add, neg_neg_n, nlt, nle, neq, ng_lt, gn_lt, gg_lt, ng_le, gn_le, gg_le, ng_eq, gn_eq, gg_eq, dv_i, if_pos, if_neg, ite_tt, ite_ff, if_b2, if_b2n, l_0, l_1, l_2, l_3, l_4, l_5, l_6, l_7, l_8, l_9, l_10, l_11, l_12, l_13, l_16, l_20, l_24, l_30, l_32, l_33, l_38, l_42, l_43, l_45, l_47, l_48, l_50, l_57, l_60, l_61, l_62, l_96, l_97, l_99, l_100, l_102, l_105, l_110, l_121, l_122, l_124, l_128, l_200, l_255, l_270, l_350, l_360, l_400, l_440, l_490, l_500, l_999, l_1000, l_9999, l_10000, l_99999, l_100000, l_1000000, l_1000000001, l_1000000002, l_1000000003, l_1000000005, l_1000000011, l_1000000012, l_1000000013, l_1000000014, gs1]
    exact fin (nI 0) n (Or.inr (Or.inl rfl)) (by omega)
  · by_cases h24 : nI 24 < r
    · simp (maxSteps := 1000000) (disch := omega) only [vv_e, mm_e, jn_e, bd_e, bd_i, ld_i, st_i, la_i, sl_i, nI_add, pk_mul, pk_sub, ng_add, neg_neg_n, nlt, nle, neq, ng_lt, gn_lt, gg_lt, ng_le, gn_le, gg_le, ng_eq, gn_eq, gg_eq, dv_i, if_pos, if_neg, ite_tt, ite_ff, if_b2, if_b2n, l_0, l_1, l_2, l_3, l_4, l_5, l_6, l_7, l_8, l_9, l_10, l_11, l_12, l_13, l_16, l_20, l_24, l_30, l_32, l_33, l_38, l_42, l_43, l_45, l_47, l_48, l_50, l_57, l_60, l_61, l_62, l_96, l_97, l_99, l_100, l_102, l_105, l_110, l_121, l_122, l_124, l_128, l_200, l_255, l_270, l_350, l_360, l_400, l_440, l_490, l_500, l_999, l_1000, l_9999, l_10000, l_99999, l_100000, l_1000000, l_1000000001, l_1000000002, l_1000000003, l_1000000005, l_1000000011, l_1000000012, l_1000000013, l_1000000014, gs1, h24]
      exact Same.mk h
    by_cases h0 : r < nI 0
    · simp (maxSteps := 1000000) (disch := omega) only [vv_e, mm_e, jn_e, bd_e, bd_i, ld_i, st_i, la_i, sl_i, nI_add, pk_mul, pk_sub, ng_add, neg_neg_n, nlt, nle, neq, ng_lt, gn_lt, gg_lt, ng_le, gn_le, gg_le, ng_eq, gn_eq, gg_eq, dv_i, if_pos, if_neg, ite_tt, ite_ff, if_b2, if_b2n, l_0, l_1, l_2, l_3, l_4, l_5, l_6, l_7, l_8, l_9, l_10, l_11, l_12, l_13, l_16, l_20, l_24, l_30, l_32, l_33, l_38, l_42, l_43, l_45, l_47, l_48, l_50, l_57, l_60, l_61, l_62, l_96, l_97, l_99, l_100, l_102, l_105, l_110, l_121, l_122, l_124, l_128, l_200, l_255, l_270, l_350, l_360, l_400, l_440, l_490, l_500, l_999, l_1000, l_9999, l_10000, l_99999, l_100000, l_1000000, l_1000000001, l_1000000002, l_1000000003, l_1000000005, l_1000000011, l_1000000012, l_1000000013, l_1000000014, gs1, h24, h0]
      exact Same.mk h
    obtain ⟨n, hn, rfl⟩ := nI_of (x := r) h0
    rw [nlt (by omega) hn] at h24
    simp (maxSteps := 1000000) (disch := omega) only [vv_e, mm_e, jn_e, bd_e, bd_i, ld_i, st_i, la_i, sl_i, nI_add, pk_mul, pk_sub, ng_add, neg_neg_n, nlt, nle, neq, ng_lt, gn_lt, gg_lt, ng_le, gn_le, gg_le, ng_eq, gn_eq, gg_eq, dv_i, if_pos, if_neg, ite_tt, ite_ff, if_b2, if_b2n, l_0, l_1, l_2, l_3, l_4, l_5, l_6, l_7, l_8, l_9, l_10, l_11, l_12, l_13, l_16, l_20, l_24, l_30, l_32, l_33, l_38, l_42, l_43, l_45, l_47, l_48, l_50, l_57, l_60, l_61, l_62, l_96, l_97, l_99, l_100, l_102, l_105, l_110, l_121, l_122, l_124, l_128, l_200, l_255, l_270, l_350, l_360, l_400, l_440, l_490, l_500, l_999, l_1000, l_9999, l_10000, l_99999, l_100000, l_1000000, l_1000000001, l_1000000002, l_1000000003, l_1000000005, l_1000000011, l_1000000012, l_1000000013, l_1000000014, gs1]
    exact fin (nI 1) n (Or.inr (Or.inr rfl)) (by omega)
theorem op_mark : ∀ (p q r : Int32) (M N : Mem), Inv M N → Same (f_X9_mark 0 p q r M) (f_X10_mark 0 p q r N) := by
  intro p q r M N h
  unfold f_X9_mark f_X10_mark
  simp only [vv_e, mm_e, jn_e, bd_e, bd_i, e1_0_0, e1_0_1, e1_0_3, e1_0_4, e1_0_6, e1_0_7, e1_1_0, e1_1_1, e1_1_2, e1_1_3, e1_1_4, e1_1_5, e1_1_9, e1_2_1, e1_2_3, e1_2_4, e1_2_5, e1_2_6, e1_2_7, e1_9_1, e1_9_2, e1_9_3, e1_9_4, e1_9_5, e1_9_6, e1_16_0, e1_16_1, e1_19_0, e1_19_2, e1_19_3, e1_19_4, e1_24_1, e1_24_2, e1_24_3, e1_24_5, e1_61_0, e1_61_6, e2_0_0, e2_0_1, e2_0_2, e2_0_4, e2_0_5, e2_0_6, e2_0_7, e2_0_8, e2_0_9, e2_0_10, e2_0_11, e2_0_12, e2_0_24, e2_0_25, e2_0_28, e2_0_29, e2_0_30, e2_0_34, e2_0_35, e2_0_36, e2_0_38, s_isSheet, y_isSheet, s_within, if_b2]
  by_cases hp : 0 ≤ p ∧ p ≤ 3
  case neg =>
    rw [if_neg hp, if_neg hp]
    exact Same.mk h
  rw [if_pos hp, if_pos hp]
  obtain ⟨i, hi, rfl⟩ := rgN (c := 3) (by decide) hp
  obtain ⟨gs1, gs2⟩ := g_sheet i (by omega)
  obtain ⟨a1, a2, a3, ⟨z, hz, a4⟩, a5⟩ := h.2.2.2.1 i (by omega)
  have hin_t : Rg q z → f_X10_isIn (Int32.toInt64 q) 0 (Int32.toInt64 (nI z - nI 1)) N = some (nI 1, N) := fun hq => by
    rw [s_isInL q 0 (Int32.toInt64 (nI z - nI 1)) 0 (nI z - nI 1) N rfl rfl, b2_t (p := 0 ≤ q ∧ q ≤ nI z - nI 1) ((rg_le (by omega)).mpr hq)]
  have hin_f : ¬ Rg q z → f_X10_isIn (Int32.toInt64 q) 0 (Int32.toInt64 (nI z - nI 1)) N = some (nI 0, N) := fun hq => by
    rw [s_isInL q 0 (Int32.toInt64 (nI z - nI 1)) 0 (nI z - nI 1) N rfl rfl, b2_f (p := 0 ≤ q ∧ q ≤ nI z - nI 1) (fun w => hq ((rg_le (by omega)).mp w))]
  have hhas_t : Rg q z → f_X4_has (66 + 2 * i) q M = some (nI 1, M) := fun hq => by
    rw [s_has4, a4, b2_t ((rg_lt (by omega)).mpr hq)]
  have hhas_f : ¬ Rg q z → f_X4_has (66 + 2 * i) q M = some (nI 0, M) := fun hq => by
    rw [s_has4, a4, b2_f (fun w => hq ((rg_lt (by omega)).mp w))]
  have fin : ∀ (k : Nat) (v : Int32), k < z → Inv (up M (67 + 2 * i) k v) (up N 6 (24 * i + k) v) := by
    intro k v hk
    refine inv_sheet h (i := i) (by omega) (fun a g1 g2 => up_ne g2) (fun a g1 g2 g3 g4 => up_ne g3) (fun j hj => by rw [up_a _ _ _ _ _ _ (by decide)]) (fun j hj => by rw [up_a _ _ _ _ _ _ (by decide)]) (fun j hj => up_k _ _ _ _ _ (by omega)) ?_
    rw [up_a _ _ _ _ _ _ (by omega), up_a _ _ _ _ _ _ (by omega), up_a _ _ _ _ _ _ (by decide), up_a _ _ _ _ _ _ (by decide), a1, a2]
    refine ⟨rfl, rfl, a3, ⟨z, hz, a4⟩, fun j hj => ?_⟩
    by_cases hjk : j = k
    · subst hjk
      rw [up_same, up_same]
    · rw [up_k _ _ _ _ _ (by omega), up_k _ _ _ _ _ hjk]
      exact a5 j hj
  rw [l_1, l_0]
  rcases a3 with a3 | a3 | a3
  · rw [show (-1 : Int32) = -nI 1 from rfl] at a3
    simp (maxSteps := 1000000) (disch := omega) only [vv_e, mm_e, jn_e, bd_e, bd_i, ld_i, st_i, la_i, sl_i, nI_add, pk_mul, pk_sub, ng_add, neg_neg_n, nlt, nle, neq, ng_lt, gn_lt, gg_lt, ng_le, gn_le, gg_le, ng_eq, gn_eq, gg_eq, dv_i, if_pos, if_neg, ite_tt, ite_ff, if_b2, if_b2n, l_0, l_1, l_2, l_3, l_4, l_5, l_6, l_7, l_8, l_9, l_10, l_11, l_12, l_13, l_16, l_20, l_24, l_30, l_32, l_33, l_38, l_42, l_43, l_45, l_47, l_48, l_50, l_57, l_60, l_61, l_62, l_96, l_97, l_99, l_100, l_102, l_105, l_110, l_121, l_122, l_124, l_128, l_200, l_255, l_270, l_350, l_360, l_400, l_440, l_490, l_500, l_999, l_1000, l_9999, l_10000, l_99999, l_100000, l_1000000, l_1000000001, l_1000000002, l_1000000003, l_1000000005, l_1000000011, l_1000000012, l_1000000013, l_1000000014, gs1, a1, a3]
    exact Same.mk h
  · rw [show (0 : Int32) = nI 0 from rfl] at a3
    by_cases hq : Rg q z
    case neg =>
      have hin := hin_f hq
      have hhas := hhas_f hq
      simp (maxSteps := 1000000) (disch := omega) only [vv_e, mm_e, jn_e, bd_e, bd_i, ld_i, la_i, neq, gn_eq, ng_eq, nlt, gn_lt, if_pos, if_neg, ite_tt, ite_ff, l_0, l_1, l_2, l_3, l_4, l_5, l_6, l_7, l_8, l_9, l_10, l_11, l_12, l_13, l_16, l_20, l_24, l_30, l_32, l_33, l_38, l_42, l_43, l_45, l_47, l_48, l_50, l_57, l_60, l_61, l_62, l_96, l_97, l_99, l_100, l_102, l_105, l_110, l_121, l_122, l_124, l_128, l_200, l_255, l_270, l_350, l_360, l_400, l_440, l_490, l_500, l_999, l_1000, l_9999, l_10000, l_99999, l_100000, l_1000000, l_1000000001, l_1000000002, l_1000000003, l_1000000005, l_1000000011, l_1000000012, l_1000000013, l_1000000014, gs1, a1, a2, a3, a4, hhas, hin]
      exact Same.mk h
    have hin := hin_t hq
    have hhas := hhas_t hq
    obtain ⟨k, hk, rfl⟩ := hq
    rw [pk_sub (by omega)] at hin
    by_cases hr : r = -nI 1000000005
    · simp (maxSteps := 1000000) (disch := omega) only [vv_e, mm_e, jn_e, bd_e, bd_i, ld_i, st_i, la_i, sl_i, nI_add, pk_mul, pk_sub, ng_add, neg_neg_n, nlt, nle, neq, ng_lt, gn_lt, gg_lt, ng_le, gn_le, gg_le, ng_eq, gn_eq, gg_eq, dv_i, if_pos, if_neg, ite_tt, ite_ff, if_b2, if_b2n, l_0, l_1, l_2, l_3, l_4, l_5, l_6, l_7, l_8, l_9, l_10, l_11, l_12, l_13, l_16, l_20, l_24, l_30, l_32, l_33, l_38, l_42, l_43, l_45, l_47, l_48, l_50, l_57, l_60, l_61, l_62, l_96, l_97, l_99, l_100, l_102, l_105, l_110, l_121, l_122, l_124, l_128, l_200, l_255, l_270, l_350, l_360, l_400, l_440, l_490, l_500, l_999, l_1000, l_9999, l_10000, l_99999, l_100000, l_1000000, l_1000000001, l_1000000002, l_1000000003, l_1000000005, l_1000000011, l_1000000012, l_1000000013, l_1000000014, gs1, gs2, a1, a2, a3, a4, hhas, hin, hr]
      exact Same.mk (fin k _ hk)
    have hrr : f_X10_isIn (Int32.toInt64 r) (-99999) 99999 N = some (b2 (-nI 99999 ≤ r ∧ r ≤ nI 99999), N) := s_isInL r (-99999) 99999 (-99999) 99999 N i64_m9 rfl
    by_cases hb : -nI 99999 ≤ r ∧ r ≤ nI 99999
    · rw [b2_t hb] at hrr
      simp (maxSteps := 1000000) (disch := omega) only [vv_e, mm_e, jn_e, bd_e, bd_i, ld_i, st_i, la_i, sl_i, nI_add, pk_mul, pk_sub, ng_add, neg_neg_n, nlt, nle, neq, ng_lt, gn_lt, gg_lt, ng_le, gn_le, gg_le, ng_eq, gn_eq, gg_eq, dv_i, if_pos, if_neg, ite_tt, ite_ff, if_b2, if_b2n, l_0, l_1, l_2, l_3, l_4, l_5, l_6, l_7, l_8, l_9, l_10, l_11, l_12, l_13, l_16, l_20, l_24, l_30, l_32, l_33, l_38, l_42, l_43, l_45, l_47, l_48, l_50, l_57, l_60, l_61, l_62, l_96, l_97, l_99, l_100, l_102, l_105, l_110, l_121, l_122, l_124, l_128, l_200, l_255, l_270, l_350, l_360, l_400, l_440, l_490, l_500, l_999, l_1000, l_9999, l_10000, l_99999, l_100000, l_1000000, l_1000000001, l_1000000002, l_1000000003, l_1000000005, l_1000000011, l_1000000012, l_1000000013, l_1000000014, gs1, gs2, a1, a2, a3, a4, hhas, hin, hr, hb, hrr, s_within, and_self]
      exact Same.mk (fin k _ hk)
    · rw [b2_f hb] at hrr
      simp (maxSteps := 1000000) (disch := omega) only [vv_e, mm_e, jn_e, bd_e, bd_i, ld_i, st_i, la_i, sl_i, nI_add, pk_mul, pk_sub, ng_add, neg_neg_n, nlt, nle, neq, ng_lt, gn_lt, gg_lt, ng_le, gn_le, gg_le, ng_eq, gn_eq, gg_eq, dv_i, if_pos, if_neg, ite_tt, ite_ff, if_b2, if_b2n, l_0, l_1, l_2, l_3, l_4, l_5, l_6, l_7, l_8, l_9, l_10, l_11, l_12, l_13, l_16, l_20, l_24, l_30, l_32, l_33, l_38, l_42, l_43, l_45, l_47, l_48, l_50, l_57, l_60, l_61, l_62, l_96, l_97, l_99, l_100, l_102, l_105, l_110, l_121, l_122, l_124, l_128, l_200, l_255, l_270, l_350, l_360, l_400, l_440, l_490, l_500, l_999, l_1000, l_9999, l_10000, l_99999, l_100000, l_1000000, l_1000000001, l_1000000002, l_1000000003, l_1000000005, l_1000000011, l_1000000012, l_1000000013, l_1000000014, gs1, gs2, a1, a2, a3, a4, hhas, hin, hr, hb, hrr, s_within]
      exact Same.mk h
  · rw [show (1 : Int32) = nI 1 from rfl] at a3
    by_cases hq : Rg q z
    case neg =>
      have hin := hin_f hq
      have hhas := hhas_f hq
      simp (maxSteps := 1000000) (disch := omega) only [vv_e, mm_e, jn_e, bd_e, bd_i, ld_i, la_i, neq, gn_eq, ng_eq, nlt, gn_lt, if_pos, if_neg, ite_tt, ite_ff, l_0, l_1, l_2, l_3, l_4, l_5, l_6, l_7, l_8, l_9, l_10, l_11, l_12, l_13, l_16, l_20, l_24, l_30, l_32, l_33, l_38, l_42, l_43, l_45, l_47, l_48, l_50, l_57, l_60, l_61, l_62, l_96, l_97, l_99, l_100, l_102, l_105, l_110, l_121, l_122, l_124, l_128, l_200, l_255, l_270, l_350, l_360, l_400, l_440, l_490, l_500, l_999, l_1000, l_9999, l_10000, l_99999, l_100000, l_1000000, l_1000000001, l_1000000002, l_1000000003, l_1000000005, l_1000000011, l_1000000012, l_1000000013, l_1000000014, gs1, a1, a2, a3, a4, hhas, hin]
      exact Same.mk h
    have hin := hin_t hq
    have hhas := hhas_t hq
    obtain ⟨k, hk, rfl⟩ := hq
    rw [pk_sub (by omega)] at hin
    by_cases hr : r = -nI 1000000005
    · simp (maxSteps := 1000000) (disch := omega) only [vv_e, mm_e, jn_e, bd_e, bd_i, ld_i, st_i, la_i, sl_i, nI_add, pk_mul, pk_sub, ng_add, neg_neg_n, nlt, nle, neq, ng_lt, gn_lt, gg_lt, ng_le, gn_le, gg_le, ng_eq, gn_eq, gg_eq, dv_i, if_pos, if_neg, ite_tt, ite_ff, if_b2, if_b2n, l_0, l_1, l_2, l_3, l_4, l_5, l_6, l_7, l_8, l_9, l_10, l_11, l_12, l_13, l_16, l_20, l_24, l_30, l_32, l_33, l_38, l_42, l_43, l_45, l_47, l_48, l_50, l_57, l_60, l_61, l_62, l_96, l_97, l_99, l_100, l_102, l_105, l_110, l_121, l_122, l_124, l_128, l_200, l_255, l_270, l_350, l_360, l_400, l_440, l_490, l_500, l_999, l_1000, l_9999, l_10000, l_99999, l_100000, l_1000000, l_1000000001, l_1000000002, l_1000000003, l_1000000005, l_1000000011, l_1000000012, l_1000000013, l_1000000014, gs1, gs2, a1, a2, a3, a4, hhas, hin, hr]
      exact Same.mk h
    simp (maxSteps := 1000000) (disch := omega) only [vv_e, mm_e, jn_e, bd_e, bd_i, ld_i, st_i, la_i, sl_i, nI_add, pk_mul, pk_sub, ng_add, neg_neg_n, nlt, nle, neq, ng_lt, gn_lt, gg_lt, ng_le, gn_le, gg_le, ng_eq, gn_eq, gg_eq, dv_i, if_pos, if_neg, ite_tt, ite_ff, if_b2, if_b2n, l_0, l_1, l_2, l_3, l_4, l_5, l_6, l_7, l_8, l_9, l_10, l_11, l_12, l_13, l_16, l_20, l_24, l_30, l_32, l_33, l_38, l_42, l_43, l_45, l_47, l_48, l_50, l_57, l_60, l_61, l_62, l_96, l_97, l_99, l_100, l_102, l_105, l_110, l_121, l_122, l_124, l_128, l_200, l_255, l_270, l_350, l_360, l_400, l_440, l_490, l_500, l_999, l_1000, l_9999, l_10000, l_99999, l_100000, l_1000000, l_1000000001, l_1000000002, l_1000000003, l_1000000005, l_1000000011, l_1000000012, l_1000000013, l_1000000014, gs1, gs2, a1, a2, a3, a4, hhas, hin, hr, and_31, short_n]
    exact Same.mk (fin k _ hk)
