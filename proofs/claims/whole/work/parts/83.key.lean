/-! the words ahead of a text -/
theorem l_101 : (101 : Int32) = nI 101 := congrArg Int32.ofNat (Eq.refl 101)
theorem l_103 : (103 : Int32) = nI 103 := congrArg Int32.ofNat (Eq.refl 103)
theorem l_107 : (107 : Int32) = nI 107 := congrArg Int32.ofNat (Eq.refl 107)
theorem l_111 : (111 : Int32) = nI 111 := congrArg Int32.ofNat (Eq.refl 111)
theorem l_112 : (112 : Int32) = nI 112 := congrArg Int32.ofNat (Eq.refl 112)
theorem l_114 : (114 : Int32) = nI 114 := congrArg Int32.ofNat (Eq.refl 114)
theorem l_115 : (115 : Int32) = nI 115 := congrArg Int32.ofNat (Eq.refl 115)
theorem l_119 : (119 : Int32) = nI 119 := congrArg Int32.ofNat (Eq.refl 119)
theorem ch8 : ∀ v, v < 128 → (Int32.toUInt32 (nI v &&& nI 255) % 65536).toInt32 = nI v := by decide +kernel
theorem j_chr {p k len v : Nat} (M : Mem) (hl : lenS.getD p 0 = len) (hk : k < len) (hlen : len < 10) (hb : (bytS.getD p []).getD k 0 = nI v) (hv : v < 128) : f_J0_charAt_5068e p (nI k) M = some (nI v, M) := by
  unfold f_J0_charAt_5068e f_J0_isLatin1_aae02 f_J1_charAt_3b067 f_J0_checkIndex_df160 f_J3_checkIndex_8e157
  simp (maxSteps := 1000000) (disch := omega) only [vv_e, mm_e, jn_e, bd_e, bd_i, ld_i, st_i, la_i, sl_i, nI_add, pk_mul, pk_sub, ng_add, neg_neg_n, nlt, nle, neq, ng_lt, gn_lt, gg_lt, ng_le, gn_le, gg_le, ng_eq, gn_eq, gg_eq, dv_i, if_pos, if_neg, ite_tt, ite_ff, if_b2, if_b2n, l_0, l_1, l_2, l_3, l_4, l_5, l_6, l_7, l_8, l_9, l_10, l_11, l_12, l_13, l_16, l_20, l_24, l_30, l_32, l_33, l_38, l_42, l_43, l_45, l_47, l_48, l_50, l_57, l_60, l_61, l_62, l_96, l_97, l_99, l_100, l_102, l_105, l_110, l_121, l_122, l_124, l_128, l_200, l_255, l_270, l_350, l_360, l_400, l_440, l_490, l_500, l_999, l_1000, l_9999, l_10000, l_99999, l_100000, l_1000000, l_1000000001, l_1000000002, l_1000000003, l_1000000005, l_1000000011, l_1000000012, l_1000000013, l_1000000014, hl, show (bytS.getD p []).getD k (nI 0) = nI v from hb, ch8 v hv]
theorem c_word {n : Nat} {B : Nat → Nat} {M N : Mem} {a b s : Nat} (h : TK n B M N a b s) (p len : Nat) (w : Nat → Nat) (hl : lenS.getD p 0 = len) (h10 : len < 10) (hw : ∀ k, k < len → (bytS.getD p []).getD k 0 = nI (w k) ∧ w k < 128) (W : Prop) [Decidable W] (hW : W ↔ (b = a + len ∧ ∀ k, k < len → B (a + k) = w k)) : f_X7_isWordHere 61 p M = some (b2 (s = 1 ∧ W), M) := by
  have hn := h.n
  obtain ⟨hC, hM, h8, h9, h10', h14, h15, hab, hbn, hc⟩ := h
  have hjl := j_len p M (by omega)
  rw [hl] at hjl
  by_cases h1 : s = 1
  case neg =>
    unfold f_X7_isWordHere
    rw [show b2 (s = 1 ∧ W) = nI 0 from if_neg (fun q => h1 q.1)]
    simp (maxSteps := 1000000) (disch := omega) only [vv_e, mm_e, jn_e, bd_e, bd_i, ld_i, st_i, la_i, sl_i, nI_add, pk_mul, pk_sub, ng_add, neg_neg_n, nlt, nle, neq, ng_lt, gn_lt, gg_lt, ng_le, gn_le, gg_le, ng_eq, gn_eq, gg_eq, dv_i, if_pos, if_neg, ite_tt, ite_ff, if_b2, if_b2n, l_0, l_1, l_2, l_3, l_4, l_5, l_6, l_7, l_8, l_9, l_10, l_11, l_12, l_13, l_16, l_20, l_24, l_30, l_32, l_33, l_38, l_42, l_43, l_45, l_47, l_48, l_50, l_57, l_60, l_61, l_62, l_96, l_97, l_99, l_100, l_102, l_105, l_110, l_121, l_122, l_124, l_128, l_200, l_255, l_270, l_350, l_360, l_400, l_440, l_490, l_500, l_999, l_1000, l_9999, l_10000, l_99999, l_100000, l_1000000, l_1000000001, l_1000000002, l_1000000003, l_1000000005, l_1000000011, l_1000000012, l_1000000013, l_1000000014, h10']
  by_cases hb : b = a + len
  case neg =>
    unfold f_X7_isWordHere
    rw [show b2 (s = 1 ∧ W) = nI 0 from if_neg (fun q => hb (hW.mp q.2).1)]
    rw [vv_e, h10', if_pos (show nI s = 1 by rw [h1]; rfl), vv_e, vv_e, hjl, bd_e, h8, h9, if_neg (show ¬ nI b - nI a = nI len by rw [pk_sub hab, neq (by omega) (by omega)]; omega)]
    rfl
  have hll : ∀ j, a ≤ j → j < b → 97 ≤ B j ∧ B j ≤ 122 := by
    rcases hc with ⟨c0, c1, g⟩ | ⟨c0, c1, c2, g, g'⟩ | ⟨c0, c1, g, _⟩ | ⟨c0, c1, _, g, _⟩ | ⟨c0, c1, g⟩ | ⟨c0, c1, g⟩
    · omega
    · omega
    · exact g
    · omega
    · omega
    · omega
  apply Res.eq
  unfold f_X7_isWordHere
  rw [vv_e, h10', if_pos (show nI s = 1 by rw [h1]; rfl), vv_e, vv_e, hjl, bd_e, h8, h9, if_pos (show nI b - nI a = nI len by rw [pk_sub hab, neq (by omega) (by omega)]; omega)]
  refine lo1 (fun m y M1 => ∃ k, k + m = len ∧ y = nI k ∧ M1 = M ∧ ∀ i, i < k → B (a + i) = w i) ?_ fuel len _ M (by show len < 5000; omega) ⟨0, by omega, rfl, rfl, fun i hi => absurd hi (by omega)⟩
  rintro m rc _ M1 ⟨k, hk, rfl, e, hp⟩ ih
  subst e
  by_cases hkl : k < len
  · obtain ⟨hu, eb⟩ := hC.2.2 (a + k) (by omega)
    have hla := hll (a + k) (by omega) (by omega)
    obtain ⟨w1, w2⟩ := hw k hkl
    rw [show cbv (B (a + k)) = nI (B (a + k)) from if_pos (by omega)] at eb
    rw [hjl, bd_e, if_pos (show nI k < nI len by rw [nlt (by omega) (by omega)]; exact hkl), vv_e, e1_61_0, vv_e, h8, nI_add, ld_i (by omega) (by omega), eb, j_chr M1 hl hkl h10 w1 w2, bd_e]
    by_cases he : B (a + k) = w k
    · rw [if_pos (congrArg nI he)]
      refine ih (m - 1) _ _ (by omega) ⟨k + 1, by omega, nI_add k 1, rfl, fun i hi => ?_⟩
      by_cases ei : i = k
      · rw [ei]; exact he
      · exact hp i (by omega)
    · rw [if_neg (show ¬ nI (B (a + k)) = nI (w k) by rw [neq (by omega) (by omega)]; exact he)]
      refine Res.mk ⟨?_, rfl⟩
      exact (show b2 (s = 1 ∧ W) = nI 0 from if_neg (fun q => he ((hW.mp q.2).2 k hkl))).symm
  · rw [hjl, bd_e, if_neg (show ¬ nI k < nI len by rw [nlt (by omega) (by omega)]; exact hkl)]
    refine Res.mk ⟨?_, rfl⟩
    exact (show b2 (s = 1 ∧ W) = nI 1 from if_pos ⟨h1, hW.mpr ⟨hb, fun i hi => hp i (by omega)⟩⟩).symm
def wlN (p k : Nat) : Nat := (([[119, 111, 114, 107, 105, 110, 103], [115, 112, 114, 101, 97, 100], [111, 100, 100]] : List (List Nat)).getD p []).getD k 0
theorem wl0 : ∀ k, k < 7 → (bytS.getD 0 []).getD k 0 = nI (wlN 0 k) ∧ wlN 0 k < 128 := by decide +kernel
theorem wl1 : ∀ k, k < 6 → (bytS.getD 1 []).getD k 0 = nI (wlN 1 k) ∧ wlN 1 k < 128 := by decide +kernel
theorem wl2 : ∀ k, k < 3 → (bytS.getD 2 []).getD k 0 = nI (wlN 2 k) ∧ wlN 2 k < 128 := by decide +kernel
theorem all3 {P : Nat → Prop} : (∀ k, k < 3 → P k) ↔ (P 0 ∧ P 1 ∧ P 2) := by
  refine ⟨fun h => ⟨h 0 (by omega), h 1 (by omega), h 2 (by omega)⟩, fun h k hk => ?_⟩
  rcases (show k = 0 ∨ k = 1 ∨ k = 2 by omega) with rfl | rfl | rfl
  · exact h.1
  · exact h.2.1
  · exact h.2.2
theorem all6 {P : Nat → Prop} : (∀ k, k < 6 → P k) ↔ (P 0 ∧ P 1 ∧ P 2 ∧ P 3 ∧ P 4 ∧ P 5) := by
  refine ⟨fun h => ⟨h 0 (by omega), h 1 (by omega), h 2 (by omega), h 3 (by omega), h 4 (by omega), h 5 (by omega)⟩, fun h k hk => ?_⟩
  obtain ⟨h0, h1, h2, h3, h4, h5⟩ := h
  rcases (show k = 0 ∨ k = 1 ∨ k = 2 ∨ k = 3 ∨ k = 4 ∨ k = 5 by omega) with rfl | rfl | rfl | rfl | rfl | rfl <;> assumption
theorem all7 {P : Nat → Prop} : (∀ k, k < 7 → P k) ↔ (P 0 ∧ P 1 ∧ P 2 ∧ P 3 ∧ P 4 ∧ P 5 ∧ P 6) := by
  refine ⟨fun h => ⟨h 0 (by omega), h 1 (by omega), h 2 (by omega), h 3 (by omega), h 4 (by omega), h 5 (by omega), h 6 (by omega)⟩, fun h k hk => ?_⟩
  obtain ⟨h0, h1, h2, h3, h4, h5, h6⟩ := h
  rcases (show k = 0 ∨ k = 1 ∨ k = 2 ∨ k = 3 ∨ k = 4 ∨ k = 5 ∨ k = 6 by omega) with rfl | rfl | rfl | rfl | rfl | rfl | rfl <;> assumption
theorem c_w7 {n : Nat} {B : Nat → Nat} {M N : Mem} {a b s : Nat} (h : TK n B M N a b s) : f_X7_isWordHere 61 0 M = some (b2 (s = 1 ∧ (b = a + 7 ∧ B (a) = 119 ∧ B (a + 1) = 111 ∧ B (a + 2) = 114 ∧ B (a + 3) = 107 ∧ B (a + 4) = 105 ∧ B (a + 5) = 110 ∧ B (a + 6) = 103)), M) :=
  c_word h 0 7 (wlN 0) ls0 (by omega) wl0 _ (and_congr Iff.rfl (all7 (P := fun k => B (a + k) = wlN 0 k)).symm)
theorem c_w6 {n : Nat} {B : Nat → Nat} {M N : Mem} {a b s : Nat} (h : TK n B M N a b s) : f_X7_isWordHere 61 1 M = some (b2 (s = 1 ∧ (b = a + 6 ∧ B (a) = 115 ∧ B (a + 1) = 112 ∧ B (a + 2) = 114 ∧ B (a + 3) = 101 ∧ B (a + 4) = 97 ∧ B (a + 5) = 100)), M) :=
  c_word h 1 6 (wlN 1) ls1 (by omega) wl1 _ (and_congr Iff.rfl (all6 (P := fun k => B (a + k) = wlN 1 k)).symm)
theorem c_w3 {n : Nat} {B : Nat → Nat} {M N : Mem} {a b s : Nat} (h : TK n B M N a b s) : f_X7_isWordHere 61 2 M = some (b2 (s = 1 ∧ (b = a + 3 ∧ B (a) = 111 ∧ B (a + 1) = 100 ∧ B (a + 2) = 100)), M) :=
  c_word h 2 3 (wlN 2) ls2 (by omega) wl2 _ (and_congr Iff.rfl (all3 (P := fun k => B (a + k) = wlN 2 k)).symm)
theorem c_key {n : Nat} {B : Nat → Nat} {M N : Mem} {a b s : Nat} (h : TK n B M N a b s) : (s = 1 ∧ (b = a + 7 ∧ B (a) = 119 ∧ B (a + 1) = 111 ∧ B (a + 2) = 114 ∧ B (a + 3) = 107 ∧ B (a + 4) = 105 ∧ B (a + 5) = 110 ∧ B (a + 6) = 103) ∧ f_X7_keyHere 61 M = some (nI 0, M)) ∨ (s = 1 ∧ (b = a + 6 ∧ B (a) = 115 ∧ B (a + 1) = 112 ∧ B (a + 2) = 114 ∧ B (a + 3) = 101 ∧ B (a + 4) = 97 ∧ B (a + 5) = 100) ∧ f_X7_keyHere 61 M = some (nI 1, M)) ∨ (s = 1 ∧ (b = a + 3 ∧ B (a) = 111 ∧ B (a + 1) = 100 ∧ B (a + 2) = 100) ∧ f_X7_keyHere 61 M = some (nI 2, M)) ∨ (¬ (s = 1 ∧ (b = a + 7 ∧ B (a) = 119 ∧ B (a + 1) = 111 ∧ B (a + 2) = 114 ∧ B (a + 3) = 107 ∧ B (a + 4) = 105 ∧ B (a + 5) = 110 ∧ B (a + 6) = 103)) ∧ ¬ (s = 1 ∧ (b = a + 6 ∧ B (a) = 115 ∧ B (a + 1) = 112 ∧ B (a + 2) = 114 ∧ B (a + 3) = 101 ∧ B (a + 4) = 97 ∧ B (a + 5) = 100)) ∧ ¬ (s = 1 ∧ (b = a + 3 ∧ B (a) = 111 ∧ B (a + 1) = 100 ∧ B (a + 2) = 100)) ∧ f_X7_keyHere 61 M = some (-nI 1, M)) := by
  unfold f_X7_keyHere
  rw [c_w7 h, bd_e, if_b2]
  by_cases h7 : s = 1 ∧ (b = a + 7 ∧ B (a) = 119 ∧ B (a + 1) = 111 ∧ B (a + 2) = 114 ∧ B (a + 3) = 107 ∧ B (a + 4) = 105 ∧ B (a + 5) = 110 ∧ B (a + 6) = 103)
  · rw [if_pos h7]; exact Or.inl ⟨h7.1, h7.2, rfl⟩
  rw [if_neg h7, c_w6 h, bd_e, if_b2]
  by_cases h6 : s = 1 ∧ (b = a + 6 ∧ B (a) = 115 ∧ B (a + 1) = 112 ∧ B (a + 2) = 114 ∧ B (a + 3) = 101 ∧ B (a + 4) = 97 ∧ B (a + 5) = 100)
  · rw [if_pos h6]; exact Or.inr (Or.inl ⟨h6.1, h6.2, rfl⟩)
  rw [if_neg h6, c_w3 h, bd_e, if_b2]
  by_cases h3 : s = 1 ∧ (b = a + 3 ∧ B (a) = 111 ∧ B (a + 1) = 100 ∧ B (a + 2) = 100)
  · rw [if_pos h3]; exact Or.inr (Or.inr (Or.inl ⟨h3.1, h3.2, rfl⟩))
  rw [if_neg h3]; exact Or.inr (Or.inr (Or.inr ⟨h7, h6, h3, rfl⟩))
theorem TK.w {n : Nat} {B : Nat → Nat} {M N : Mem} {a b s : Nat} (h : TK n B M N a b s) : (s = 1 ∧ N 0 16 = nI 1 ∧ ∀ j, a ≤ j → j < b → 97 ≤ B j ∧ B j ≤ 122) ∨ (s ≠ 1 ∧ ∃ t, t < 5 ∧ t ≠ 1 ∧ N 0 16 = nI t) := by
  obtain ⟨hC, hM, h8, h9, h10', h14, h15, hab, hbn, hc⟩ := h
  rcases hc with ⟨c0, c1, g⟩ | ⟨c0, c1, c2, g, g'⟩ | ⟨c0, c1, g, g2, _⟩ | ⟨c0, c1, _, _, g, _⟩ | ⟨c0, c1, g⟩ | ⟨c0, c1, g⟩
  · exact Or.inr ⟨by omega, 0, by omega, by omega, g⟩
  · exact Or.inr ⟨by omega, 3, by omega, by omega, g⟩
  · exact Or.inl ⟨c0, g2, g⟩
  · exact Or.inr ⟨by omega, 2, by omega, by omega, g⟩
  · exact Or.inr ⟨by omega, 4, by omega, by omega, g⟩
  · exact Or.inr ⟨by omega, 4, by omega, by omega, g⟩
theorem m_w6 {n : Nat} {B : Nat → Nat} {M N : Mem} {a b s : Nat} (h : TK n B M N a b s) : f_X10_isLong 0 115 112 114 101 97 100 N = some (b2 (s = 1 ∧ (b = a + 6 ∧ B (a) = 115 ∧ B (a + 1) = 112 ∧ B (a + 2) = 114 ∧ B (a + 3) = 101 ∧ B (a + 4) = 97 ∧ B (a + 5) = 100)), N) := by
  have hn := h.n
  have hw := h.w
  obtain ⟨hC, hM, h8, h9, h10', h14, h15, hab, hbn, hc⟩ := h
  unfold f_X10_isLong
  rcases hw with ⟨h1, g, hl⟩ | ⟨h1, t, t5, t1, g⟩
  case inr =>
    rw [show b2 (s = 1 ∧ (b = a + 6 ∧ B (a) = 115 ∧ B (a + 1) = 112 ∧ B (a + 2) = 114 ∧ B (a + 3) = 101 ∧ B (a + 4) = 97 ∧ B (a + 5) = 100)) = nI 0 from if_neg (fun q => h1 q.1)]
    simp (maxSteps := 1000000) (disch := omega) only [vv_e, mm_e, jn_e, bd_e, bd_i, ld_i, st_i, la_i, sl_i, nI_add, pk_mul, pk_sub, ng_add, neg_neg_n, nlt, nle, neq, ng_lt, gn_lt, gg_lt, ng_le, gn_le, gg_le, ng_eq, gn_eq, gg_eq, dv_i, if_pos, if_neg, ite_tt, ite_ff, if_b2, if_b2n, l_0, l_1, l_2, l_3, l_4, l_5, l_6, l_7, l_8, l_9, l_10, l_11, l_12, l_13, l_16, l_20, l_24, l_30, l_32, l_33, l_38, l_42, l_43, l_45, l_47, l_48, l_50, l_57, l_60, l_61, l_62, l_96, l_97, l_99, l_100, l_102, l_105, l_110, l_121, l_122, l_124, l_128, l_200, l_255, l_270, l_350, l_360, l_400, l_440, l_490, l_500, l_999, l_1000, l_9999, l_10000, l_99999, l_100000, l_1000000, l_1000000001, l_1000000002, l_1000000003, l_1000000005, l_1000000011, l_1000000012, l_1000000013, l_1000000014, g]
  by_cases hb : b = a + 6
  case neg =>
    rw [show b2 (s = 1 ∧ (b = a + 6 ∧ B (a) = 115 ∧ B (a + 1) = 112 ∧ B (a + 2) = 114 ∧ B (a + 3) = 101 ∧ B (a + 4) = 97 ∧ B (a + 5) = 100)) = nI 0 from if_neg (fun q => hb q.2.1)]
    simp (maxSteps := 1000000) (disch := omega) only [vv_e, mm_e, jn_e, bd_e, bd_i, ld_i, st_i, la_i, sl_i, nI_add, pk_mul, pk_sub, ng_add, neg_neg_n, nlt, nle, neq, ng_lt, gn_lt, gg_lt, ng_le, gn_le, gg_le, ng_eq, gn_eq, gg_eq, dv_i, if_pos, if_neg, ite_tt, ite_ff, if_b2, if_b2n, l_0, l_1, l_2, l_3, l_4, l_5, l_6, l_7, l_8, l_9, l_10, l_11, l_12, l_13, l_16, l_20, l_24, l_30, l_32, l_33, l_38, l_42, l_43, l_45, l_47, l_48, l_50, l_57, l_60, l_61, l_62, l_96, l_97, l_99, l_100, l_102, l_105, l_110, l_121, l_122, l_124, l_128, l_200, l_255, l_270, l_350, l_360, l_400, l_440, l_490, l_500, l_999, l_1000, l_9999, l_10000, l_99999, l_100000, l_1000000, l_1000000001, l_1000000002, l_1000000003, l_1000000005, l_1000000011, l_1000000012, l_1000000013, l_1000000014, g, h14, h15]
  have e0 := hM.2.2 a (by omega)
  have e1 := hM.2.2 (a + 1) (by omega)
  have e2 := hM.2.2 (a + 2) (by omega)
  have e3 := hM.2.2 (a + 3) (by omega)
  have e4 := hM.2.2 (a + 4) (by omega)
  have e5 := hM.2.2 (a + 5) (by omega)
  clear hc hl hC h8 h9 h10'
  by_cases hW : s = 1 ∧ (b = a + 6 ∧ B (a) = 115 ∧ B (a + 1) = 112 ∧ B (a + 2) = 114 ∧ B (a + 3) = 101 ∧ B (a + 4) = 97 ∧ B (a + 5) = 100)
  · rw [show b2 (s = 1 ∧ (b = a + 6 ∧ B (a) = 115 ∧ B (a + 1) = 112 ∧ B (a + 2) = 114 ∧ B (a + 3) = 101 ∧ B (a + 4) = 97 ∧ B (a + 5) = 100)) = nI 1 from if_pos hW]
    simp (maxSteps := 1000000) (disch := omega) only [vv_e, mm_e, jn_e, bd_e, bd_i, e2_0_0, e2_0_1, e2_0_2, e2_0_4, e2_0_5, e2_0_6, e2_0_7, e2_0_8, e2_0_9, e2_0_10, e2_0_11, e2_0_12, e2_0_24, e2_0_25, e2_0_28, e2_0_29, e2_0_30, e2_0_34, e2_0_35, e2_0_36, e2_0_38, ite_tt, ite_ff, show (b - a = 6) = True from eq_true (by omega), ld_i, nI_add, pk_sub, neq, l_0, l_1, l_2, l_3, l_4, l_5, l_6, l_7, l_97, l_100, l_105, l_110, l_101, l_112, l_114, l_115, g, h14, h15, e0.2, e1.2, e2.2, e3.2, e4.2, e5.2]
    repeat' split
    all_goals first | rfl | (exfalso; omega)
  · rw [show b2 (s = 1 ∧ (b = a + 6 ∧ B (a) = 115 ∧ B (a + 1) = 112 ∧ B (a + 2) = 114 ∧ B (a + 3) = 101 ∧ B (a + 4) = 97 ∧ B (a + 5) = 100)) = nI 0 from if_neg hW]
    simp (maxSteps := 1000000) (disch := omega) only [vv_e, mm_e, jn_e, bd_e, bd_i, e2_0_0, e2_0_1, e2_0_2, e2_0_4, e2_0_5, e2_0_6, e2_0_7, e2_0_8, e2_0_9, e2_0_10, e2_0_11, e2_0_12, e2_0_24, e2_0_25, e2_0_28, e2_0_29, e2_0_30, e2_0_34, e2_0_35, e2_0_36, e2_0_38, ite_tt, ite_ff, show (b - a = 6) = True from eq_true (by omega), ld_i, nI_add, pk_sub, neq, l_0, l_1, l_2, l_3, l_4, l_5, l_6, l_7, l_97, l_100, l_105, l_110, l_101, l_112, l_114, l_115, g, h14, h15, e0.2, e1.2, e2.2, e3.2, e4.2, e5.2]
    repeat' split
    all_goals first | rfl | (exfalso; omega)
theorem m_w3 {n : Nat} {B : Nat → Nat} {M N : Mem} {a b s : Nat} (h : TK n B M N a b s) : f_X10_isWordAt 0 111 100 100 0 N = some (b2 (s = 1 ∧ (b = a + 3 ∧ B (a) = 111 ∧ B (a + 1) = 100 ∧ B (a + 2) = 100)), N) := by
  have hn := h.n
  have hw := h.w
  obtain ⟨hC, hM, h8, h9, h10', h14, h15, hab, hbn, hc⟩ := h
  unfold f_X10_isWordAt
  rcases hw with ⟨h1, g, hl⟩ | ⟨h1, t, t5, t1, g⟩
  case inr =>
    rw [show b2 (s = 1 ∧ (b = a + 3 ∧ B (a) = 111 ∧ B (a + 1) = 100 ∧ B (a + 2) = 100)) = nI 0 from if_neg (fun q => h1 q.1)]
    simp (maxSteps := 1000000) (disch := omega) only [vv_e, mm_e, jn_e, bd_e, bd_i, ld_i, st_i, la_i, sl_i, nI_add, pk_mul, pk_sub, ng_add, neg_neg_n, nlt, nle, neq, ng_lt, gn_lt, gg_lt, ng_le, gn_le, gg_le, ng_eq, gn_eq, gg_eq, dv_i, if_pos, if_neg, ite_tt, ite_ff, if_b2, if_b2n, l_0, l_1, l_2, l_3, l_4, l_5, l_6, l_7, l_8, l_9, l_10, l_11, l_12, l_13, l_16, l_20, l_24, l_30, l_32, l_33, l_38, l_42, l_43, l_45, l_47, l_48, l_50, l_57, l_60, l_61, l_62, l_96, l_97, l_99, l_100, l_102, l_105, l_110, l_121, l_122, l_124, l_128, l_200, l_255, l_270, l_350, l_360, l_400, l_440, l_490, l_500, l_999, l_1000, l_9999, l_10000, l_99999, l_100000, l_1000000, l_1000000001, l_1000000002, l_1000000003, l_1000000005, l_1000000011, l_1000000012, l_1000000013, l_1000000014, g]
  by_cases hb : b = a + 3
  case neg =>
    rw [show b2 (s = 1 ∧ (b = a + 3 ∧ B (a) = 111 ∧ B (a + 1) = 100 ∧ B (a + 2) = 100)) = nI 0 from if_neg (fun q => hb q.2.1)]
    simp (maxSteps := 1000000) (disch := omega) only [vv_e, mm_e, jn_e, bd_e, bd_i, ld_i, st_i, la_i, sl_i, nI_add, pk_mul, pk_sub, ng_add, neg_neg_n, nlt, nle, neq, ng_lt, gn_lt, gg_lt, ng_le, gn_le, gg_le, ng_eq, gn_eq, gg_eq, dv_i, if_pos, if_neg, ite_tt, ite_ff, if_b2, if_b2n, l_0, l_1, l_2, l_3, l_4, l_5, l_6, l_7, l_8, l_9, l_10, l_11, l_12, l_13, l_16, l_20, l_24, l_30, l_32, l_33, l_38, l_42, l_43, l_45, l_47, l_48, l_50, l_57, l_60, l_61, l_62, l_96, l_97, l_99, l_100, l_102, l_105, l_110, l_121, l_122, l_124, l_128, l_200, l_255, l_270, l_350, l_360, l_400, l_440, l_490, l_500, l_999, l_1000, l_9999, l_10000, l_99999, l_100000, l_1000000, l_1000000001, l_1000000002, l_1000000003, l_1000000005, l_1000000011, l_1000000012, l_1000000013, l_1000000014, g, h14, h15]
  have e0 := hM.2.2 a (by omega)
  have e1 := hM.2.2 (a + 1) (by omega)
  have e2 := hM.2.2 (a + 2) (by omega)
  clear hc hl hC h8 h9 h10'
  by_cases hW : s = 1 ∧ (b = a + 3 ∧ B (a) = 111 ∧ B (a + 1) = 100 ∧ B (a + 2) = 100)
  · rw [show b2 (s = 1 ∧ (b = a + 3 ∧ B (a) = 111 ∧ B (a + 1) = 100 ∧ B (a + 2) = 100)) = nI 1 from if_pos hW]
    simp (maxSteps := 1000000) (disch := omega) only [vv_e, mm_e, jn_e, bd_e, bd_i, e2_0_0, e2_0_1, e2_0_2, e2_0_4, e2_0_5, e2_0_6, e2_0_7, e2_0_8, e2_0_9, e2_0_10, e2_0_11, e2_0_12, e2_0_24, e2_0_25, e2_0_28, e2_0_29, e2_0_30, e2_0_34, e2_0_35, e2_0_36, e2_0_38, ite_tt, ite_ff, show (b - a = 3) = True from eq_true (by omega), ld_i, nI_add, pk_sub, neq, l_0, l_1, l_2, l_3, l_4, l_5, l_6, l_7, l_97, l_100, l_105, l_110, l_111, g, h14, h15, e0.2, e1.2, e2.2]
    repeat' split
    all_goals first | rfl | (exfalso; omega)
  · rw [show b2 (s = 1 ∧ (b = a + 3 ∧ B (a) = 111 ∧ B (a + 1) = 100 ∧ B (a + 2) = 100)) = nI 0 from if_neg hW]
    simp (maxSteps := 1000000) (disch := omega) only [vv_e, mm_e, jn_e, bd_e, bd_i, e2_0_0, e2_0_1, e2_0_2, e2_0_4, e2_0_5, e2_0_6, e2_0_7, e2_0_8, e2_0_9, e2_0_10, e2_0_11, e2_0_12, e2_0_24, e2_0_25, e2_0_28, e2_0_29, e2_0_30, e2_0_34, e2_0_35, e2_0_36, e2_0_38, ite_tt, ite_ff, show (b - a = 3) = True from eq_true (by omega), ld_i, nI_add, pk_sub, neq, l_0, l_1, l_2, l_3, l_4, l_5, l_6, l_7, l_97, l_100, l_105, l_110, l_111, g, h14, h15, e0.2, e1.2, e2.2]
    repeat' split
    all_goals first | rfl | (exfalso; omega)
theorem m_w7 {n : Nat} {B : Nat → Nat} {M N : Mem} {a b s : Nat} (h : TK n B M N a b s) : f_X10_isWorking 0 N = some (b2 (s = 1 ∧ (b = a + 7 ∧ B (a) = 119 ∧ B (a + 1) = 111 ∧ B (a + 2) = 114 ∧ B (a + 3) = 107 ∧ B (a + 4) = 105 ∧ B (a + 5) = 110 ∧ B (a + 6) = 103)), N) := by
  have hn := h.n
  have hw := h.w
  obtain ⟨hC, hM, h8, h9, h10', h14, h15, hab, hbn, hc⟩ := h
  unfold f_X10_isWorking
  rcases hw with ⟨h1, g, hl⟩ | ⟨h1, t, t5, t1, g⟩
  case inr =>
    rw [show b2 (s = 1 ∧ (b = a + 7 ∧ B (a) = 119 ∧ B (a + 1) = 111 ∧ B (a + 2) = 114 ∧ B (a + 3) = 107 ∧ B (a + 4) = 105 ∧ B (a + 5) = 110 ∧ B (a + 6) = 103)) = nI 0 from if_neg (fun q => h1 q.1)]
    simp (maxSteps := 1000000) (disch := omega) only [vv_e, mm_e, jn_e, bd_e, bd_i, ld_i, st_i, la_i, sl_i, nI_add, pk_mul, pk_sub, ng_add, neg_neg_n, nlt, nle, neq, ng_lt, gn_lt, gg_lt, ng_le, gn_le, gg_le, ng_eq, gn_eq, gg_eq, dv_i, if_pos, if_neg, ite_tt, ite_ff, if_b2, if_b2n, l_0, l_1, l_2, l_3, l_4, l_5, l_6, l_7, l_8, l_9, l_10, l_11, l_12, l_13, l_16, l_20, l_24, l_30, l_32, l_33, l_38, l_42, l_43, l_45, l_47, l_48, l_50, l_57, l_60, l_61, l_62, l_96, l_97, l_99, l_100, l_102, l_105, l_110, l_121, l_122, l_124, l_128, l_200, l_255, l_270, l_350, l_360, l_400, l_440, l_490, l_500, l_999, l_1000, l_9999, l_10000, l_99999, l_100000, l_1000000, l_1000000001, l_1000000002, l_1000000003, l_1000000005, l_1000000011, l_1000000012, l_1000000013, l_1000000014, g]
  by_cases hb : b = a + 7
  case neg =>
    rw [show b2 (s = 1 ∧ (b = a + 7 ∧ B (a) = 119 ∧ B (a + 1) = 111 ∧ B (a + 2) = 114 ∧ B (a + 3) = 107 ∧ B (a + 4) = 105 ∧ B (a + 5) = 110 ∧ B (a + 6) = 103)) = nI 0 from if_neg (fun q => hb q.2.1)]
    simp (maxSteps := 1000000) (disch := omega) only [vv_e, mm_e, jn_e, bd_e, bd_i, ld_i, st_i, la_i, sl_i, nI_add, pk_mul, pk_sub, ng_add, neg_neg_n, nlt, nle, neq, ng_lt, gn_lt, gg_lt, ng_le, gn_le, gg_le, ng_eq, gn_eq, gg_eq, dv_i, if_pos, if_neg, ite_tt, ite_ff, if_b2, if_b2n, l_0, l_1, l_2, l_3, l_4, l_5, l_6, l_7, l_8, l_9, l_10, l_11, l_12, l_13, l_16, l_20, l_24, l_30, l_32, l_33, l_38, l_42, l_43, l_45, l_47, l_48, l_50, l_57, l_60, l_61, l_62, l_96, l_97, l_99, l_100, l_102, l_105, l_110, l_121, l_122, l_124, l_128, l_200, l_255, l_270, l_350, l_360, l_400, l_440, l_490, l_500, l_999, l_1000, l_9999, l_10000, l_99999, l_100000, l_1000000, l_1000000001, l_1000000002, l_1000000003, l_1000000005, l_1000000011, l_1000000012, l_1000000013, l_1000000014, g, h14, h15]
  have e0 := hM.2.2 a (by omega)
  have e1 := hM.2.2 (a + 1) (by omega)
  have e2 := hM.2.2 (a + 2) (by omega)
  have e3 := hM.2.2 (a + 3) (by omega)
  have e4 := hM.2.2 (a + 4) (by omega)
  have e5 := hM.2.2 (a + 5) (by omega)
  have e6 := hM.2.2 (a + 6) (by omega)
  clear hc hl hC h8 h9 h10'
  by_cases hW : s = 1 ∧ (b = a + 7 ∧ B (a) = 119 ∧ B (a + 1) = 111 ∧ B (a + 2) = 114 ∧ B (a + 3) = 107 ∧ B (a + 4) = 105 ∧ B (a + 5) = 110 ∧ B (a + 6) = 103)
  · rw [show b2 (s = 1 ∧ (b = a + 7 ∧ B (a) = 119 ∧ B (a + 1) = 111 ∧ B (a + 2) = 114 ∧ B (a + 3) = 107 ∧ B (a + 4) = 105 ∧ B (a + 5) = 110 ∧ B (a + 6) = 103)) = nI 1 from if_pos hW]
    simp (maxSteps := 1000000) (disch := omega) only [vv_e, mm_e, jn_e, bd_e, bd_i, e2_0_0, e2_0_1, e2_0_2, e2_0_4, e2_0_5, e2_0_6, e2_0_7, e2_0_8, e2_0_9, e2_0_10, e2_0_11, e2_0_12, e2_0_24, e2_0_25, e2_0_28, e2_0_29, e2_0_30, e2_0_34, e2_0_35, e2_0_36, e2_0_38, ite_tt, ite_ff, show (b - a = 7) = True from eq_true (by omega), ld_i, nI_add, pk_sub, neq, l_0, l_1, l_2, l_3, l_4, l_5, l_6, l_7, l_97, l_100, l_105, l_110, l_119, l_111, l_114, l_107, l_103, g, h14, h15, e0.2, e1.2, e2.2, e3.2, e4.2, e5.2, e6.2]
    repeat' split
    all_goals first | rfl | (exfalso; omega)
  · rw [show b2 (s = 1 ∧ (b = a + 7 ∧ B (a) = 119 ∧ B (a + 1) = 111 ∧ B (a + 2) = 114 ∧ B (a + 3) = 107 ∧ B (a + 4) = 105 ∧ B (a + 5) = 110 ∧ B (a + 6) = 103)) = nI 0 from if_neg hW]
    simp (maxSteps := 1000000) (disch := omega) only [vv_e, mm_e, jn_e, bd_e, bd_i, e2_0_0, e2_0_1, e2_0_2, e2_0_4, e2_0_5, e2_0_6, e2_0_7, e2_0_8, e2_0_9, e2_0_10, e2_0_11, e2_0_12, e2_0_24, e2_0_25, e2_0_28, e2_0_29, e2_0_30, e2_0_34, e2_0_35, e2_0_36, e2_0_38, ite_tt, ite_ff, show (b - a = 7) = True from eq_true (by omega), ld_i, nI_add, pk_sub, neq, l_0, l_1, l_2, l_3, l_4, l_5, l_6, l_7, l_97, l_100, l_105, l_110, l_119, l_111, l_114, l_107, l_103, g, h14, h15, e0.2, e1.2, e2.2, e3.2, e4.2, e5.2, e6.2]
    repeat' split
    all_goals first | rfl | (exfalso; omega)
