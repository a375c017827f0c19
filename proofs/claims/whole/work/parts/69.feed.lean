theorem byte_eq (x : Int32) : ∀ k, k < 4 → Int32.toInt8 (js x (nI (8 * k))) = Int32.toInt8 ((x >>> nI (8 * k)) &&& nI 255) := by
  intro k hk
  have hs : (((nI (8 * k)).toUInt32 &&& Int32.toUInt32 31).toBitVec % 32).toNat = 8 * k := by
    rcases (show k = 0 ∨ k = 1 ∨ k = 2 ∨ k = 3 by omega) with rfl | rfl | rfl | rfl <;> rfl
  have e1 : (js x (nI (8 * k))).toBitVec = x.toBitVec >>> (8 * k) := by
    have e0 : (js x (nI (8 * k))).toBitVec = x.toBitVec >>> (((nI (8 * k)).toUInt32 &&& Int32.toUInt32 31).toBitVec % 32).toNat := UInt32.toBitVec_shiftRight _ _
    rw [hs] at e0
    exact e0
  have e2 : (x >>> nI (8 * k)).toBitVec = x.toBitVec.sshiftRight (8 * k) := by
    show x.toBitVec.sshiftRight ((nI (8 * k)).toBitVec.smod 32).toNat = _
    rw [smod_k (8 * k) (by omega)]
  apply Int8.toBitVec_inj.mp
  show (js x (nI (8 * k))).toBitVec.signExtend 8 = ((x >>> nI (8 * k)).toBitVec &&& (nI 255).toBitVec).signExtend 8
  rw [e1, e2]
  apply BitVec.eq_of_getLsbD_eq
  intro i hi
  have h255 : ∀ i, i < 8 → (nI 255).toBitVec.getLsbD i = true := by decide
  rw [BitVec.getLsbD_signExtend, BitVec.getLsbD_signExtend, BitVec.getLsbD_and, h255 i hi, BitVec.getLsbD_sshiftRight, BitVec.getLsbD_ushiftRight]
  have h1 : i < 32 := by omega
  have h2 : 8 * k + i < 32 := by omega
  simp [hi, h1, h2]
theorem add4 {c : Nat} (v : Int32) (M : Mem) (h : M 61 1 = nI c) (hc : c + 4 ≤ 96) : Res (fun r M' => M' 61 1 = nI (c + 4) ∧ (∀ f, f ≠ 1 → M' 61 f = M 61 f) ∧ (∀ j, j < c → M' 62 j = M 62 j) ∧ (∀ i, i < 4 → M' 62 (c + i) = Int8.toInt32 (Int32.toInt8 (js v (nI (8 * (3 - i)))))) ∧ ∀ a, a ≠ 61 → a ≠ 62 → M' a = M a) (f_X7_add 61 v M) := by
  unfold f_X7_add
  simp only [vv_e, mm_e, jn_e, bd_e, bd_i, e1_0_0, e1_0_1, e1_0_3, e1_0_4, e1_0_6, e1_0_7, e1_1_0, e1_1_1, e1_1_2, e1_1_3, e1_1_4, e1_1_5, e1_1_9, e1_2_1, e1_2_3, e1_2_4, e1_2_5, e1_2_6, e1_2_7, e1_9_1, e1_9_2, e1_9_3, e1_9_4, e1_9_5, e1_9_6, e1_16_0, e1_16_1, e1_19_0, e1_19_2, e1_19_3, e1_19_4, e1_24_1, e1_24_2, e1_24_3, e1_24_5, e1_61_0, e1_61_6]
  refine lo1 (fun n y M' => ∃ i, i + n = 4 ∧ (i < 4 → y = nI (8 * (3 - i))) ∧ (i = 4 → y = -nI 8) ∧ M' 61 1 = nI (c + i) ∧ (∀ f, f ≠ 1 → M' 61 f = M 61 f) ∧ (∀ j, j < c → M' 62 j = M 62 j) ∧ (∀ i', i' < i → M' 62 (c + i') = Int8.toInt32 (Int32.toInt8 (js v (nI (8 * (3 - i')))))) ∧ ∀ a, a ≠ 61 → a ≠ 62 → M' a = M a) ?_ fuel 4 _ M (by decide) ⟨0, by omega, fun _ => rfl, fun q => absurd q (by decide), h, fun _ _ => rfl, fun _ _ => rfl, fun i' hi' => absurd hi' (Nat.not_lt_zero i'), fun _ _ _ => rfl⟩
  rintro n rc y M' ⟨i, hi, y1, y2, h1, h2, h3, h4, h5⟩ ih
  by_cases hi4 : i = 4
  · subst hi4
    rw [y2 rfl]
    simp (maxSteps := 1000000) (disch := omega) only [ld_i, st_i, la_i, sl_i, nI_add, pk_mul, pk_sub, ng_add, neg_neg_n, nlt, nle, neq, ng_lt, gn_lt, gg_lt, ng_le, gn_le, gg_le, ng_eq, gn_eq, gg_eq, dv_i, if_pos, if_neg, ite_tt, ite_ff, if_b2, if_b2n, l_0, l_1, l_2, l_3, l_4, l_5, l_6, l_7, l_8, l_9, l_10, l_11, l_12, l_13, l_16, l_20, l_24, l_30, l_32, l_33, l_38, l_42, l_43, l_45, l_47, l_48, l_50, l_57, l_60, l_61, l_62, l_96, l_97, l_99, l_100, l_102, l_105, l_110, l_121, l_122, l_124, l_128, l_200, l_255, l_270, l_350, l_360, l_400, l_440, l_490, l_500, l_999, l_1000, l_9999, l_10000, l_99999, l_100000, l_1000000, l_1000000001, l_1000000002, l_1000000003, l_1000000005, l_1000000011, l_1000000012, l_1000000013, l_1000000014]
    exact Res.mk ⟨h1, h2, h3, h4, h5⟩
  rw [y1 (by omega)]
  have hid : Int8.toInt32 (Int32.toInt8 (Int8.toInt32 (Int32.toInt8 (js v (nI (8 * (3 - i))))))) = Int8.toInt32 (Int32.toInt8 (js v (nI (8 * (3 - i))))) := by simp
  simp (maxSteps := 1000000) (disch := omega) only [vv_e, mm_e, jn_e, bd_e, bd_i, ld_i, st_i, la_i, sl_i, nI_add, pk_mul, pk_sub, ng_add, neg_neg_n, nlt, nle, neq, ng_lt, gn_lt, gg_lt, ng_le, gn_le, gg_le, ng_eq, gn_eq, gg_eq, dv_i, if_pos, if_neg, ite_tt, ite_ff, if_b2, if_b2n, l_0, l_1, l_2, l_3, l_4, l_5, l_6, l_7, l_8, l_9, l_10, l_11, l_12, l_13, l_16, l_20, l_24, l_30, l_32, l_33, l_38, l_42, l_43, l_45, l_47, l_48, l_50, l_57, l_60, l_61, l_62, l_96, l_97, l_99, l_100, l_102, l_105, l_110, l_121, l_122, l_124, l_128, l_200, l_255, l_270, l_350, l_360, l_400, l_440, l_490, l_500, l_999, l_1000, l_9999, l_10000, l_99999, l_100000, l_1000000, l_1000000001, l_1000000002, l_1000000003, l_1000000005, l_1000000011, l_1000000012, l_1000000013, l_1000000014, up_a, up_k, up_same, h1, hid]
  refine ih (n - 1) _ _ (by omega) ⟨i + 1, by omega, fun q => ?_, fun q => ?_, ?_, fun f hf => ?_, fun j hj => ?_, fun i' hi' => ?_, fun a g1 g2 => ?_⟩
  · rw [show (8 : Nat) * (3 - i) = 8 * (3 - (i + 1)) + 8 by omega, ng_add (by omega)]
    exact congrArg nI (by omega)
  · rw [show i = 3 by omega]
    decide
  · rw [up_same]; exact congrArg nI (by omega)
  · rw [up_k _ _ _ _ _ hf, up_ne (by decide)]; exact h2 f hf
  · rw [up_a _ _ _ _ _ _ (by decide), up_k _ _ _ _ _ (by omega)]; exact h3 j hj
  · rw [up_a _ _ _ _ _ _ (by decide)]
    by_cases e : i' = i
    · subst e; rw [up_same]
    · rw [up_k _ _ _ _ _ (by omega)]; exact h4 i' (by omega)
  · rw [up_ne g1, up_ne g2]; exact h5 a g1 g2
theorem op_feed : ∀ (p q r : Int32) (M N : Mem), Inv M N → Same (f_X9_feed 0 p q r M) (f_X10_feed 0 p q r N) := by
  intro p q r M N h
  obtain ⟨hS, hI, hB, hH, hP, hW⟩ := id h
  obtain ⟨c, hc, b1, b2', b3⟩ := hB
  unfold f_X9_feed f_X10_feed
  simp only [vv_e, mm_e, jn_e, bd_e, bd_i, e1_0_0, e1_0_1, e1_0_3, e1_0_4, e1_0_6, e1_0_7, e1_1_0, e1_1_1, e1_1_2, e1_1_3, e1_1_4, e1_1_5, e1_1_9, e1_2_1, e1_2_3, e1_2_4, e1_2_5, e1_2_6, e1_2_7, e1_9_1, e1_9_2, e1_9_3, e1_9_4, e1_9_5, e1_9_6, e1_16_0, e1_16_1, e1_19_0, e1_19_2, e1_19_3, e1_19_4, e1_24_1, e1_24_2, e1_24_3, e1_24_5, e1_61_0, e1_61_6, e2_0_0, e2_0_1, e2_0_2, e2_0_4, e2_0_5, e2_0_6, e2_0_7, e2_0_8, e2_0_9, e2_0_10, e2_0_11, e2_0_12, e2_0_24, e2_0_25, e2_0_28, e2_0_29, e2_0_30, e2_0_34, e2_0_35, e2_0_36, e2_0_38]
  rw [b1, b2']
  by_cases hf : 96 < c + 12
  · simp (maxSteps := 1000000) (disch := omega) only [ld_i, st_i, la_i, sl_i, nI_add, pk_mul, pk_sub, ng_add, neg_neg_n, nlt, nle, neq, ng_lt, gn_lt, gg_lt, ng_le, gn_le, gg_le, ng_eq, gn_eq, gg_eq, dv_i, if_pos, if_neg, ite_tt, ite_ff, if_b2, if_b2n, l_0, l_1, l_2, l_3, l_4, l_5, l_6, l_7, l_8, l_9, l_10, l_11, l_12, l_13, l_16, l_20, l_24, l_30, l_32, l_33, l_38, l_42, l_43, l_45, l_47, l_48, l_50, l_57, l_60, l_61, l_62, l_96, l_97, l_99, l_100, l_102, l_105, l_110, l_121, l_122, l_124, l_128, l_200, l_255, l_270, l_350, l_360, l_400, l_440, l_490, l_500, l_999, l_1000, l_9999, l_10000, l_99999, l_100000, l_1000000, l_1000000001, l_1000000002, l_1000000003, l_1000000005, l_1000000011, l_1000000012, l_1000000013, l_1000000014]
    exact Same.mk h
  obtain ⟨r1, M1, e1, a1, a2, a3, a4, a5⟩ := add4 p M b1 (by omega)
  obtain ⟨r2, M2, e2, c1, c2, c3, c4, c5⟩ := add4 q M1 a1 (by omega)
  obtain ⟨r3, M3, e3, d1, d2, d3, d4, d5⟩ := add4 r M2 c1 (by omega)
  have hnn : ¬ (96 : Int32) < nI c + 12 := by
    rw [show nI c + 12 = nI (c + 12) from nI_add c 12]
    exact nI_nlt (b := c + 12) (a := 96) (by omega) (by omega)
  rw [if_neg hnn, if_neg hnn, e1, bd_e, e2, bd_e, e3, bd_e, d1]
  apply R2.same
  refine ro1 (fun n y N' => ∃ i, i + n = 12 ∧ y = nI i ∧ N' 0 13 = nI (c + i) ∧ (∀ f, f ≠ 13 → N' 0 f = N 0 f) ∧ (∀ j, j < c → N' 12 j = N 12 j) ∧ (∀ i', i' < i → N' 12 (c + i') = ((if i' < 4 then p else if i' < 8 then q else r) >>> nI (8 * (3 - i' % 4))) &&& nI 255) ∧ ∀ a, a ≠ 0 → a ≠ 12 → N' a = N a) ?_ fuel 12 _ N (by decide) ⟨0, by omega, rfl, b2', fun _ _ => rfl, fun _ _ => rfl, fun i' hi' => absurd hi' (Nat.not_lt_zero i'), fun _ _ _ => rfl⟩
  rintro n rd _ N' ⟨i, hi, rfl, g1, g2, g3, g4, g5⟩ ih
  by_cases hi12 : i = 12
  case neg =>
    have fin : ∀ v, v = (if i < 4 then p else if i < 8 then q else r) → R2 (fun _ M N => Inv M N) (some (nI (c + 4 + 4 + 4), M3)) (rd (nI (i + 1)) (up (up N' 12 (c + i) (v >>> nI (8 * (3 - i % 4)) &&& nI 255)) 0 13 (nI (c + i + 1)))) := by
      intro v hv
      refine ih (n - 1) _ _ (by omega) ⟨i + 1, by omega, rfl, by rw [up_same]; exact congrArg nI (by omega), fun f hf => by rw [up_k _ _ _ _ _ hf, up_ne (by decide)]; exact g2 f hf, fun j hj => by rw [up_ne (by decide), up_k _ _ _ _ _ (by omega)]; exact g3 j hj, fun i' hi' => ?_, fun a h1 h2 => by rw [up_ne h1, up_ne h2]; exact g5 a h1 h2⟩
      rw [up_ne (by decide)]
      by_cases e : i' = i
      · subst e; rw [up_same, hv]
      · rw [up_k _ _ _ _ _ (by omega)]; exact g4 i' (by omega)
    have hsh : (nI 24 - nI (8 * (i % 4))) &&& 31 = nI (8 * (3 - i % 4)) := by
      rw [pk_sub (by omega), and_31 _ (by omega)]
      exact congrArg nI (by omega)
    have l255 : (255 : Int32) = nI 255 := rfl
    by_cases h4 : i < 4
    · simp (maxSteps := 1000000) (disch := omega) only [vv_e, mm_e, jn_e, bd_e, bd_i, nlt, if_pos, if_neg, st_i, nI_add, pk_mul, jr_n, up_a, up_same, l_0, l_1, l_2, l_3, l_4, l_5, l_6, l_7, l_8, l_9, l_10, l_11, l_12, l_13, l_16, l_20, l_24, l_30, l_32, l_33, l_38, l_42, l_43, l_45, l_47, l_48, l_50, l_57, l_60, l_61, l_62, l_96, l_97, l_99, l_100, l_102, l_105, l_110, l_121, l_122, l_124, l_128, l_200, l_255, l_270, l_350, l_360, l_400, l_440, l_490, l_500, l_999, l_1000, l_9999, l_10000, l_99999, l_100000, l_1000000, l_1000000001, l_1000000002, l_1000000003, l_1000000005, l_1000000011, l_1000000012, l_1000000013, l_1000000014, g1, hsh]
      exact fin p (by rw [if_pos h4])
    · by_cases h8 : i < 8
      · simp (maxSteps := 1000000) (disch := omega) only [vv_e, mm_e, jn_e, bd_e, bd_i, nlt, if_pos, if_neg, st_i, nI_add, pk_mul, jr_n, up_a, up_same, l_0, l_1, l_2, l_3, l_4, l_5, l_6, l_7, l_8, l_9, l_10, l_11, l_12, l_13, l_16, l_20, l_24, l_30, l_32, l_33, l_38, l_42, l_43, l_45, l_47, l_48, l_50, l_57, l_60, l_61, l_62, l_96, l_97, l_99, l_100, l_102, l_105, l_110, l_121, l_122, l_124, l_128, l_200, l_255, l_270, l_350, l_360, l_400, l_440, l_490, l_500, l_999, l_1000, l_9999, l_10000, l_99999, l_100000, l_1000000, l_1000000001, l_1000000002, l_1000000003, l_1000000005, l_1000000011, l_1000000012, l_1000000013, l_1000000014, g1, hsh]
        exact fin q (by rw [if_neg h4, if_pos h8])
      · simp (maxSteps := 1000000) (disch := omega) only [vv_e, mm_e, jn_e, bd_e, bd_i, nlt, if_pos, if_neg, st_i, nI_add, pk_mul, jr_n, up_a, up_same, l_0, l_1, l_2, l_3, l_4, l_5, l_6, l_7, l_8, l_9, l_10, l_11, l_12, l_13, l_16, l_20, l_24, l_30, l_32, l_33, l_38, l_42, l_43, l_45, l_47, l_48, l_50, l_57, l_60, l_61, l_62, l_96, l_97, l_99, l_100, l_102, l_105, l_110, l_121, l_122, l_124, l_128, l_200, l_255, l_270, l_350, l_360, l_400, l_440, l_490, l_500, l_999, l_1000, l_9999, l_10000, l_99999, l_100000, l_1000000, l_1000000001, l_1000000002, l_1000000003, l_1000000005, l_1000000011, l_1000000012, l_1000000013, l_1000000014, g1, hsh]
        exact fin r (by rw [if_neg h4, if_neg h8])
  subst hi12
  rw [if_neg (by decide), g1, show c + 4 + 4 + 4 = c + 12 by omega]
  have hM3 : ∀ a, a ≠ 61 → a ≠ 62 → M3 a = M a := fun a h1 h2 => by rw [d5 a h1 h2, c5 a h1 h2, a5 a h1 h2]
  refine R2.mk (inv_out h (fun a h1 h2 => hM3 a (by omega) (by omega)) (by rw [hM3 0 (by decide) (by decide)]) (g2 3 (by decide)) (fun a ha => g5 a (by omega) (by omega)) ⟨c + 12, by omega, d1, g1, fun j hj => ?_⟩ (fun i hi => ?_) (fun i hi => ?_) ?_)
  · by_cases hjc : j < c
    · rw [g3 j hjc, d3 j (by omega), c3 j (by omega), a3 j hjc]
      exact b3 j hjc
    · obtain ⟨i', rfl⟩ : ∃ i', j = c + i' := ⟨j - c, by omega⟩
      have key : ∀ (v : Int32) (k : Nat), k < 4 → Rg ((v >>> nI (8 * (3 - k))) &&& nI 255) 256 ∧ Int8.toInt32 (Int32.toInt8 (js v (nI (8 * (3 - k))))) = Int8.toInt32 (Int32.toInt8 ((v >>> nI (8 * (3 - k))) &&& nI 255)) := fun v k hk => by
        refine ⟨?_, congrArg Int8.toInt32 (byte_eq v (3 - k) (by omega))⟩
        obtain ⟨w, hw, ew⟩ := pk_andE (v >>> nI (8 * (3 - k))) (m := nI 255) 8 rfl
        exact ⟨w, hw, ew⟩
      rw [g4 i' (by omega)]
      by_cases h4 : i' < 4
      · rw [if_pos h4, d3 _ (by omega), c3 _ (by omega), a4 i' h4, show i' % 4 = i' by omega]
        exact key p i' h4
      · by_cases h8 : i' < 8
        · rw [if_neg h4, if_pos h8, d3 _ (by omega), show c + i' = c + 4 + (i' - 4) by omega, c4 (i' - 4) (by omega), show i' % 4 = i' - 4 by omega]
          exact key q (i' - 4) (by omega)
        · rw [if_neg h4, if_neg h8, show c + i' = c + 4 + 4 + (i' - 8) by omega, d4 (i' - 8) (by omega), show i' % 4 = i' - 8 by omega]
          exact key r (i' - 8) (by omega)
  · rw [hM3 (66 + 2 * i) (by omega) (by omega), hM3 (67 + 2 * i) (by omega) (by omega), g5 4 (by decide) (by decide), g5 5 (by decide) (by decide), g5 6 (by decide) (by decide)]
    exact hH i hi
  · rw [hM3 (75 + 3 * i) (by omega) (by omega), hM3 (76 + 3 * i) (by omega) (by omega), hM3 (77 + 3 * i) (by omega) (by omega), g5 7 (by decide) (by decide), g5 8 (by decide) (by decide), g5 9 (by decide) (by decide), g5 10 (by decide) (by decide), g5 11 (by decide) (by decide)]
    exact hP i hi
  · rw [hM3 0 (by omega) (by omega), hM3 64 (by omega) (by omega), g2 37 (by decide), g5 20 (by decide) (by decide)]
    exact hW
