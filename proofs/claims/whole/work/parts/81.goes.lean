theorem Res.of {Q : Int32 → Mem → Prop} {z z' : Option (Int32 × Mem)} (h : Res Q z) (e : z' = z) : Res Q z' := e ▸ h
/-! the model goes on -/
def vl (B : Nat → Nat) (a : Nat) : Nat → Nat
  | 0 => 0
  | k + 1 => vl B a k * 10 + (B (a + k) - 48)
theorem vl_lt {B : Nat → Nat} {a : Nat} : ∀ k, (∀ i, i < k → B (a + i) ≤ 57) → vl B a k < 10 ^ k
  | 0, _ => by show 0 < 1; omega
  | k + 1, h => by
    have h1 := vl_lt k (fun i hi => h i (by omega))
    have h2 := h k (by omega)
    show vl B a k * 10 + (B (a + k) - 48) < 10 ^ (k + 1)
    rw [Nat.pow_succ]
    omega
def mL (v9 : Int32) (M : Mem) : Option (Int32 × Mem) :=
              it0 (fun rc39 M =>
                vv (M 0 15) fun x40 =>
                bd (f_X10_isLetter 0 x40 M) fun x41 M =>
                if x41 = 0 then
                  jn (fun (v42 : Int32) (M : Mem) =>
                    mm (up M 0 16 v42) fun M =>
                    vv (M 0 15) fun x44 =>
                    vv (M 0 14) fun x45 =>
                    jn (fun (v46 : Int32) (M : Mem) =>
                      mm (up M 0 18 v46) fun M =>
                      some (0, M)
                    ) fun k47 =>
                    if (x44 - x45) = 1 then
                      vv (grf G2 0 12) fun x48 =>
                      vv (M 0 14) fun x49 =>
                      ld M x48 x49 96 fun x50 =>
                      k47 x50 M
                    else
                      k47 0 M
                  ) fun k43 =>
                  if v9 = 0 then
                    k43 1 M
                  else
                    k43 4 M
                else
                  vv (M 0 15) fun x51 =>
                  mm (up M 0 15 (x51 + 1)) fun M =>
                  rc39 M
              ) fuel M
def mD (v9 : Int32) (M : Mem) : Option (Int32 × Mem) :=
                it0 (fun rc22 M =>
                  vv (M 0 15) fun x23 =>
                  bd (f_X10_isDigit 0 x23 M) fun x24 M =>
                  if x24 = 0 then
                    jn (fun (v25 : Int32) (M : Mem) =>
                      mm (up M 0 16 v25) fun M =>
                      some (0, M)
                    ) fun k26 =>
                    if v9 = 0 then
                      vv (M 0 15) fun x27 =>
                      vv (M 0 14) fun x28 =>
                      if 4 < (x27 - x28) then
                        k26 4 M
                      else
                        k26 2 M
                    else
                      k26 4 M
                  else
                    vv (M 0 15) fun x29 =>
                    vv (M 0 14) fun x30 =>
                    jn (fun (v31 : Int32) (M : Mem) =>
                      mm (up M 0 17 v31) fun M =>
                      vv (M 0 15) fun x33 =>
                      mm (up M 0 15 (x33 + 1)) fun M =>
                      rc22 M
                    ) fun k32 =>
                    if (x29 - x30) < 4 then
                      vv (M 0 17) fun x35 =>
                      vv (grf G2 0 12) fun x36 =>
                      vv (M 0 15) fun x37 =>
                      ld M x36 x37 96 fun x38 =>
                      k32 (((10 * x35) + x38) - 48) M
                    else
                      vv (M 0 17) fun x34 =>
                      k32 x34 M
                ) fuel M
def mT (v9 : Int32) (M : Mem) : Option (Int32 × Mem) :=
          vv (M 0 15) fun x11 =>
          mm (up M 0 14 x11) fun M =>
          vv (M 0 14) fun x12 =>
          vv (M 0 13) fun x13 =>
          if x12 = x13 then
            mm (up M 0 16 0) fun M =>
            some (0, M)
          else
            vv (M 0 14) fun x14 =>
            bd (f_X10_isLetter 0 x14 M) fun x15 M =>
            if x15 = 0 then
              vv (M 0 14) fun x16 =>
              bd (f_X10_isDigit 0 x16 M) fun x17 M =>
              if x17 = 0 then
                mm (up M 0 16 3) fun M =>
                vv (grf G2 0 12) fun x18 =>
                vv (M 0 14) fun x19 =>
                ld M x18 x19 96 fun x20 =>
                mm (up M 0 18 x20) fun M =>
                vv (M 0 15) fun x21 =>
                mm (up M 0 15 (x21 + 1)) fun M =>
                some (0, M)
              else
                mm (up M 0 17 0) fun M =>
                mD v9 M
            else
              mL v9 M
def mS (v2 x4 : Int32) (M : Mem) : Option (Int32 × Mem) :=
    it0 (fun rc5 M =>
      vv (M 0 15) fun x6 =>
      vv (M 0 13) fun x7 =>
      jn (fun (M : Mem) =>
        jn (fun (v9 : Int32) (M : Mem) =>
          mT v9 M
        ) fun k10 =>
        if v2 = 0 then
          k10 0 M
        else
          vv (M 0 15) fun x52 =>
          if x4 = x52 then
            k10 1 M
          else
            k10 0 M
      ) fun k8 =>
      if x6 < x7 then
        vv (grf G2 0 12) fun x53 =>
        vv (M 0 15) fun x54 =>
        ld M x53 x54 96 fun x55 =>
        if x55 = 32 then
          vv (M 0 15) fun x56 =>
          mm (up M 0 15 (x56 + 1)) fun M =>
          rc5 M
        else
          k8 M
      else
        k8 M
    ) fuel M
theorem go_eq (M : Mem) : f_X10_goesOn 0 M = (if 0 < M 0 15 then (if M 0 16 = 1 then mS 1 (M 0 15) M else if M 0 16 = 2 then mS 1 (M 0 15) M else mS 0 (M 0 15) M) else mS 0 (M 0 15) M) := by
  have e : ∀ v2, (vv (M 0 15) fun x4 => mS v2 x4 M) = mS v2 (M 0 15) M := fun v2 => by rw [vv_e]
  unfold f_X10_goesOn
  rw [vv_e, jn_e]
  by_cases h0 : 0 < M 0 15
  case neg =>
    rw [if_neg h0, if_neg h0]
    exact e 0
  rw [if_pos h0, if_pos h0, vv_e]
  by_cases h1 : M 0 16 = 1
  · rw [if_pos h1, if_pos h1]
    exact e 1
  · rw [if_neg h1, if_neg h1, vv_e]
    by_cases h2 : M 0 16 = 2
    · rw [if_pos h2, if_pos h2]
      exact e 1
    · rw [if_neg h2, if_neg h2]
      exact e 0
theorem m_l {n : Nat} {B : Nat → Nat} {N : Mem} {a v9 : Nat} (h : BM n B N) (ha : a < n) (h14 : N 0 14 = nI a) (h15 : N 0 15 = nI a) (hs : srt n B a = 1) (hv : v9 ≤ 1) :
    Res (fun _ N' => GT N N' ∧ N' 0 14 = nI a ∧ ∃ e, Stop (fun j => srt n B j = 1) (a + 1) e ∧ e ≤ n ∧ N' 0 15 = nI e ∧ N' 0 16 = nI (if v9 = 0 then 1 else 4) ∧ N' 0 18 = nI (if e = a + 1 then B a else 0)) (mL (nI v9) N) := by
  have hn := h.1
  unfold mL
  refine lo0 (fun m N1 => ∃ j, m + j = n ∧ a ≤ j ∧ (∀ i, a ≤ i → i < j → srt n B i = 1) ∧ GT N N1 ∧ N1 0 14 = nI a ∧ N1 0 15 = nI j) ?_ fuel (n - a) N (by show n - a < 5000; omega) ⟨a, by omega, Nat.le_refl _, fun i a b => absurd b (by omega), GT.r, h14, h15⟩
  rintro m rc N1 ⟨j, hj, hj0, hp, hF, h14', h15'⟩ ih
  have hB := h.gt hF
  have e1 := hB.2.1
  have hsA := m_isLetter hB j (by omega)
  obtain ⟨hu, eb⟩ := hB.2.2 a ha
  by_cases hc : srt n B j = 1
  · have hjn : j < n := by
      rcases srt_c n B j with ⟨e, q⟩ | ⟨e, q, q'⟩ | ⟨e, q, q'⟩ | ⟨e, q, q', q''⟩ <;> omega
    rw [show b2 (srt n B j = 1) = nI 1 from if_pos hc] at hsA
    simp (maxSteps := 1000000) (disch := omega) only [vv_e, mm_e, jn_e, bd_e, bd_i, ld_i, st_i, la_i, sl_i, nI_add, pk_mul, pk_sub, ng_add, neg_neg_n, nlt, nle, neq, ng_lt, gn_lt, gg_lt, ng_le, gn_le, gg_le, ng_eq, gn_eq, gg_eq, dv_i, if_pos, if_neg, ite_tt, ite_ff, if_b2, if_b2n, l_0, l_1, l_2, l_3, l_4, l_5, l_6, l_7, l_8, l_9, l_10, l_11, l_12, l_13, l_16, l_20, l_24, l_30, l_32, l_33, l_38, l_42, l_43, l_45, l_47, l_48, l_50, l_57, l_60, l_61, l_62, l_96, l_97, l_99, l_100, l_102, l_105, l_110, l_121, l_122, l_124, l_128, l_200, l_255, l_270, l_350, l_360, l_400, l_440, l_490, l_500, l_999, l_1000, l_9999, l_10000, l_99999, l_100000, l_1000000, l_1000000001, l_1000000002, l_1000000003, l_1000000005, l_1000000011, l_1000000012, l_1000000013, l_1000000014, h15', hsA]
    refine ih (m - 1) _ (by omega) ⟨j + 1, by omega, by omega, fun i x y => ?_, hF.u (by omega), ?_, up_same _ _ _ _⟩
    · by_cases e : i = j
      · rw [e]; exact hc
      · exact hp i x (by omega)
    · rw [up_k _ _ _ _ _ (by decide)]; exact h14'
  · have hja : a < j := by
      rcases (show j = a ∨ a < j by omega) with e | e
      · rw [e] at hc; exact absurd hs hc
      · exact e
    have hst : Stop (fun j => srt n B j = 1) (a + 1) j := ⟨hja, fun i x y => hp i (by omega) y, hc⟩
    rw [show b2 (srt n B j = 1) = nI 0 from if_neg hc] at hsA
    rcases (show v9 = 0 ∨ v9 = 1 by omega) with rfl | rfl
    · by_cases h1 : j = a + 1
      · simp (maxSteps := 1000000) (disch := omega) only [vv_e, mm_e, jn_e, bd_e, bd_i, e2_0_0, e2_0_1, e2_0_2, e2_0_4, e2_0_5, e2_0_6, e2_0_7, e2_0_8, e2_0_9, e2_0_10, e2_0_11, e2_0_12, e2_0_24, e2_0_25, e2_0_28, e2_0_29, e2_0_30, e2_0_34, e2_0_35, e2_0_36, e2_0_38, ld_i, st_i, la_i, sl_i, nI_add, pk_mul, pk_sub, ng_add, neg_neg_n, nlt, nle, neq, ng_lt, gn_lt, gg_lt, ng_le, gn_le, gg_le, ng_eq, gn_eq, gg_eq, dv_i, if_pos, if_neg, ite_tt, ite_ff, if_b2, if_b2n, l_0, l_1, l_2, l_3, l_4, l_5, l_6, l_7, l_8, l_9, l_10, l_11, l_12, l_13, l_16, l_20, l_24, l_30, l_32, l_33, l_38, l_42, l_43, l_45, l_47, l_48, l_50, l_57, l_60, l_61, l_62, l_96, l_97, l_99, l_100, l_102, l_105, l_110, l_121, l_122, l_124, l_128, l_200, l_255, l_270, l_350, l_360, l_400, l_440, l_490, l_500, l_999, l_1000, l_9999, l_10000, l_99999, l_100000, l_1000000, l_1000000001, l_1000000002, l_1000000003, l_1000000005, l_1000000011, l_1000000012, l_1000000013, l_1000000014, up_a, up_k, up_same, h15', h14', hsA, eb]
        refine Res.mk ⟨(hF.u (by omega)).u (by omega), ?_, j, hst, by omega, ?_, ?_, ?_⟩
        · simp (maxSteps := 1000000) (disch := omega) only [up_a, up_k, up_same, h14']
        · simp (maxSteps := 1000000) (disch := omega) only [up_a, up_k, up_same, h15']
        · simp (maxSteps := 1000000) (disch := omega) only [up_a, up_k, up_same, ld_i, st_i, la_i, sl_i, nI_add, pk_mul, pk_sub, ng_add, neg_neg_n, nlt, nle, neq, ng_lt, gn_lt, gg_lt, ng_le, gn_le, gg_le, ng_eq, gn_eq, gg_eq, dv_i, if_pos, if_neg, ite_tt, ite_ff, if_b2, if_b2n, l_0, l_1, l_2, l_3, l_4, l_5, l_6, l_7, l_8, l_9, l_10, l_11, l_12, l_13, l_16, l_20, l_24, l_30, l_32, l_33, l_38, l_42, l_43, l_45, l_47, l_48, l_50, l_57, l_60, l_61, l_62, l_96, l_97, l_99, l_100, l_102, l_105, l_110, l_121, l_122, l_124, l_128, l_200, l_255, l_270, l_350, l_360, l_400, l_440, l_490, l_500, l_999, l_1000, l_9999, l_10000, l_99999, l_100000, l_1000000, l_1000000001, l_1000000002, l_1000000003, l_1000000005, l_1000000011, l_1000000012, l_1000000013, l_1000000014]
        · rw [up_same, if_pos h1]
      · simp (maxSteps := 1000000) (disch := omega) only [vv_e, mm_e, jn_e, bd_e, bd_i, e2_0_0, e2_0_1, e2_0_2, e2_0_4, e2_0_5, e2_0_6, e2_0_7, e2_0_8, e2_0_9, e2_0_10, e2_0_11, e2_0_12, e2_0_24, e2_0_25, e2_0_28, e2_0_29, e2_0_30, e2_0_34, e2_0_35, e2_0_36, e2_0_38, ld_i, st_i, la_i, sl_i, nI_add, pk_mul, pk_sub, ng_add, neg_neg_n, nlt, nle, neq, ng_lt, gn_lt, gg_lt, ng_le, gn_le, gg_le, ng_eq, gn_eq, gg_eq, dv_i, if_pos, if_neg, ite_tt, ite_ff, if_b2, if_b2n, l_0, l_1, l_2, l_3, l_4, l_5, l_6, l_7, l_8, l_9, l_10, l_11, l_12, l_13, l_16, l_20, l_24, l_30, l_32, l_33, l_38, l_42, l_43, l_45, l_47, l_48, l_50, l_57, l_60, l_61, l_62, l_96, l_97, l_99, l_100, l_102, l_105, l_110, l_121, l_122, l_124, l_128, l_200, l_255, l_270, l_350, l_360, l_400, l_440, l_490, l_500, l_999, l_1000, l_9999, l_10000, l_99999, l_100000, l_1000000, l_1000000001, l_1000000002, l_1000000003, l_1000000005, l_1000000011, l_1000000012, l_1000000013, l_1000000014, up_a, up_k, up_same, h15', h14', hsA, eb]
        refine Res.mk ⟨(hF.u (by omega)).u (by omega), ?_, j, hst, by omega, ?_, ?_, ?_⟩
        · simp (maxSteps := 1000000) (disch := omega) only [up_a, up_k, up_same, h14']
        · simp (maxSteps := 1000000) (disch := omega) only [up_a, up_k, up_same, h15']
        · simp (maxSteps := 1000000) (disch := omega) only [up_a, up_k, up_same, ld_i, st_i, la_i, sl_i, nI_add, pk_mul, pk_sub, ng_add, neg_neg_n, nlt, nle, neq, ng_lt, gn_lt, gg_lt, ng_le, gn_le, gg_le, ng_eq, gn_eq, gg_eq, dv_i, if_pos, if_neg, ite_tt, ite_ff, if_b2, if_b2n, l_0, l_1, l_2, l_3, l_4, l_5, l_6, l_7, l_8, l_9, l_10, l_11, l_12, l_13, l_16, l_20, l_24, l_30, l_32, l_33, l_38, l_42, l_43, l_45, l_47, l_48, l_50, l_57, l_60, l_61, l_62, l_96, l_97, l_99, l_100, l_102, l_105, l_110, l_121, l_122, l_124, l_128, l_200, l_255, l_270, l_350, l_360, l_400, l_440, l_490, l_500, l_999, l_1000, l_9999, l_10000, l_99999, l_100000, l_1000000, l_1000000001, l_1000000002, l_1000000003, l_1000000005, l_1000000011, l_1000000012, l_1000000013, l_1000000014]
        · rw [up_same, if_neg h1]
    · by_cases h1 : j = a + 1
      · simp (maxSteps := 1000000) (disch := omega) only [vv_e, mm_e, jn_e, bd_e, bd_i, e2_0_0, e2_0_1, e2_0_2, e2_0_4, e2_0_5, e2_0_6, e2_0_7, e2_0_8, e2_0_9, e2_0_10, e2_0_11, e2_0_12, e2_0_24, e2_0_25, e2_0_28, e2_0_29, e2_0_30, e2_0_34, e2_0_35, e2_0_36, e2_0_38, ld_i, st_i, la_i, sl_i, nI_add, pk_mul, pk_sub, ng_add, neg_neg_n, nlt, nle, neq, ng_lt, gn_lt, gg_lt, ng_le, gn_le, gg_le, ng_eq, gn_eq, gg_eq, dv_i, if_pos, if_neg, ite_tt, ite_ff, if_b2, if_b2n, l_0, l_1, l_2, l_3, l_4, l_5, l_6, l_7, l_8, l_9, l_10, l_11, l_12, l_13, l_16, l_20, l_24, l_30, l_32, l_33, l_38, l_42, l_43, l_45, l_47, l_48, l_50, l_57, l_60, l_61, l_62, l_96, l_97, l_99, l_100, l_102, l_105, l_110, l_121, l_122, l_124, l_128, l_200, l_255, l_270, l_350, l_360, l_400, l_440, l_490, l_500, l_999, l_1000, l_9999, l_10000, l_99999, l_100000, l_1000000, l_1000000001, l_1000000002, l_1000000003, l_1000000005, l_1000000011, l_1000000012, l_1000000013, l_1000000014, up_a, up_k, up_same, h15', h14', hsA, eb]
        refine Res.mk ⟨(hF.u (by omega)).u (by omega), ?_, j, hst, by omega, ?_, ?_, ?_⟩
        · simp (maxSteps := 1000000) (disch := omega) only [up_a, up_k, up_same, h14']
        · simp (maxSteps := 1000000) (disch := omega) only [up_a, up_k, up_same, h15']
        · simp (maxSteps := 1000000) (disch := omega) only [up_a, up_k, up_same, ld_i, st_i, la_i, sl_i, nI_add, pk_mul, pk_sub, ng_add, neg_neg_n, nlt, nle, neq, ng_lt, gn_lt, gg_lt, ng_le, gn_le, gg_le, ng_eq, gn_eq, gg_eq, dv_i, if_pos, if_neg, ite_tt, ite_ff, if_b2, if_b2n, l_0, l_1, l_2, l_3, l_4, l_5, l_6, l_7, l_8, l_9, l_10, l_11, l_12, l_13, l_16, l_20, l_24, l_30, l_32, l_33, l_38, l_42, l_43, l_45, l_47, l_48, l_50, l_57, l_60, l_61, l_62, l_96, l_97, l_99, l_100, l_102, l_105, l_110, l_121, l_122, l_124, l_128, l_200, l_255, l_270, l_350, l_360, l_400, l_440, l_490, l_500, l_999, l_1000, l_9999, l_10000, l_99999, l_100000, l_1000000, l_1000000001, l_1000000002, l_1000000003, l_1000000005, l_1000000011, l_1000000012, l_1000000013, l_1000000014]
        · rw [up_same, if_pos h1]
      · simp (maxSteps := 1000000) (disch := omega) only [vv_e, mm_e, jn_e, bd_e, bd_i, e2_0_0, e2_0_1, e2_0_2, e2_0_4, e2_0_5, e2_0_6, e2_0_7, e2_0_8, e2_0_9, e2_0_10, e2_0_11, e2_0_12, e2_0_24, e2_0_25, e2_0_28, e2_0_29, e2_0_30, e2_0_34, e2_0_35, e2_0_36, e2_0_38, ld_i, st_i, la_i, sl_i, nI_add, pk_mul, pk_sub, ng_add, neg_neg_n, nlt, nle, neq, ng_lt, gn_lt, gg_lt, ng_le, gn_le, gg_le, ng_eq, gn_eq, gg_eq, dv_i, if_pos, if_neg, ite_tt, ite_ff, if_b2, if_b2n, l_0, l_1, l_2, l_3, l_4, l_5, l_6, l_7, l_8, l_9, l_10, l_11, l_12, l_13, l_16, l_20, l_24, l_30, l_32, l_33, l_38, l_42, l_43, l_45, l_47, l_48, l_50, l_57, l_60, l_61, l_62, l_96, l_97, l_99, l_100, l_102, l_105, l_110, l_121, l_122, l_124, l_128, l_200, l_255, l_270, l_350, l_360, l_400, l_440, l_490, l_500, l_999, l_1000, l_9999, l_10000, l_99999, l_100000, l_1000000, l_1000000001, l_1000000002, l_1000000003, l_1000000005, l_1000000011, l_1000000012, l_1000000013, l_1000000014, up_a, up_k, up_same, h15', h14', hsA, eb]
        refine Res.mk ⟨(hF.u (by omega)).u (by omega), ?_, j, hst, by omega, ?_, ?_, ?_⟩
        · simp (maxSteps := 1000000) (disch := omega) only [up_a, up_k, up_same, h14']
        · simp (maxSteps := 1000000) (disch := omega) only [up_a, up_k, up_same, h15']
        · simp (maxSteps := 1000000) (disch := omega) only [up_a, up_k, up_same, ld_i, st_i, la_i, sl_i, nI_add, pk_mul, pk_sub, ng_add, neg_neg_n, nlt, nle, neq, ng_lt, gn_lt, gg_lt, ng_le, gn_le, gg_le, ng_eq, gn_eq, gg_eq, dv_i, if_pos, if_neg, ite_tt, ite_ff, if_b2, if_b2n, l_0, l_1, l_2, l_3, l_4, l_5, l_6, l_7, l_8, l_9, l_10, l_11, l_12, l_13, l_16, l_20, l_24, l_30, l_32, l_33, l_38, l_42, l_43, l_45, l_47, l_48, l_50, l_57, l_60, l_61, l_62, l_96, l_97, l_99, l_100, l_102, l_105, l_110, l_121, l_122, l_124, l_128, l_200, l_255, l_270, l_350, l_360, l_400, l_440, l_490, l_500, l_999, l_1000, l_9999, l_10000, l_99999, l_100000, l_1000000, l_1000000001, l_1000000002, l_1000000003, l_1000000005, l_1000000011, l_1000000012, l_1000000013, l_1000000014]
        · rw [up_same, if_neg h1]
theorem m_d {n : Nat} {B : Nat → Nat} {N : Mem} {a v9 : Nat} (h : BM n B N) (ha : a < n) (h14 : N 0 14 = nI a) (h15 : N 0 15 = nI a) (h17 : N 0 17 = nI 0) (hs : srt n B a = 2) (hv : v9 ≤ 1) :
    Res (fun _ N' => GT N N' ∧ N' 0 14 = nI a ∧ ∃ e, Stop (fun j => srt n B j = 2) (a + 1) e ∧ e ≤ n ∧ N' 0 15 = nI e ∧ N' 0 16 = nI (if v9 = 0 ∧ e ≤ a + 4 then 2 else 4) ∧ (e ≤ a + 4 → N' 0 17 = nI (vl B a (e - a)))) (mD (nI v9) N) := by
  have hn := h.1
  unfold mD
  refine lo0 (fun m N1 => ∃ j, m + j = n ∧ a ≤ j ∧ (∀ i, a ≤ i → i < j → srt n B i = 2) ∧ GT N N1 ∧ N1 0 14 = nI a ∧ N1 0 15 = nI j ∧ (j ≤ a + 4 → N1 0 17 = nI (vl B a (j - a)))) ?_ fuel (n - a) N (by show n - a < 5000; omega) ⟨a, by omega, Nat.le_refl _, fun i a b => absurd b (by omega), GT.r, h14, h15, fun _ => by rw [Nat.sub_self]; exact h17⟩
  rintro m rc N1 ⟨j, hj, hj0, hp, hF, h14', h15', h17'⟩ ih
  have hB := h.gt hF
  have e1 := hB.2.1
  have hsA := m_isDigit hB j (by omega)
  by_cases hc : srt n B j = 2
  · have hjn : j < n ∧ 48 ≤ B j ∧ B j ≤ 57 := by
      rcases srt_c n B j with ⟨e, q⟩ | ⟨e, q, q'⟩ | ⟨e, q, q'⟩ | ⟨e, q, q', q''⟩ <;> omega
    obtain ⟨hu, eb⟩ := hB.2.2 j hjn.1
    rw [show b2 (srt n B j = 2) = nI 1 from if_pos hc] at hsA
    have hi : ∀ i, a ≤ i → i < j + 1 → srt n B i = 2 := fun i x y => by
      by_cases e : i = j
      · rw [e]; exact hc
      · exact hp i x (by omega)
    by_cases h4 : j < a + 4
    · have h17'' := h17' (by omega)
      simp (maxSteps := 1000000) (disch := omega) only [vv_e, mm_e, jn_e, bd_e, bd_i, e2_0_0, e2_0_1, e2_0_2, e2_0_4, e2_0_5, e2_0_6, e2_0_7, e2_0_8, e2_0_9, e2_0_10, e2_0_11, e2_0_12, e2_0_24, e2_0_25, e2_0_28, e2_0_29, e2_0_30, e2_0_34, e2_0_35, e2_0_36, e2_0_38, ld_i, st_i, la_i, sl_i, nI_add, pk_mul, pk_sub, ng_add, neg_neg_n, nlt, nle, neq, ng_lt, gn_lt, gg_lt, ng_le, gn_le, gg_le, ng_eq, gn_eq, gg_eq, dv_i, if_pos, if_neg, ite_tt, ite_ff, if_b2, if_b2n, l_0, l_1, l_2, l_3, l_4, l_5, l_6, l_7, l_8, l_9, l_10, l_11, l_12, l_13, l_16, l_20, l_24, l_30, l_32, l_33, l_38, l_42, l_43, l_45, l_47, l_48, l_50, l_57, l_60, l_61, l_62, l_96, l_97, l_99, l_100, l_102, l_105, l_110, l_121, l_122, l_124, l_128, l_200, l_255, l_270, l_350, l_360, l_400, l_440, l_490, l_500, l_999, l_1000, l_9999, l_10000, l_99999, l_100000, l_1000000, l_1000000001, l_1000000002, l_1000000003, l_1000000005, l_1000000011, l_1000000012, l_1000000013, l_1000000014, up_a, up_k, up_same, h15', h14', h17'', hsA, eb]
      refine ih (m - 1) _ (by omega) ⟨j + 1, by omega, by omega, hi, (hF.u (by omega)).u (by omega), ?_, up_same _ _ _ _, fun q => ?_⟩
      · simp (maxSteps := 1000000) (disch := omega) only [up_a, up_k, up_same, h14']
      · rw [up_k _ _ _ _ _ (by decide), up_same, show j + 1 - a = (j - a) + 1 by omega]
        show _ = nI (vl B a (j - a) * 10 + (B (a + (j - a)) - 48))
        rw [show a + (j - a) = j by omega]
        exact congrArg nI (by omega)
    · simp (maxSteps := 1000000) (disch := omega) only [vv_e, mm_e, jn_e, bd_e, bd_i, e2_0_0, e2_0_1, e2_0_2, e2_0_4, e2_0_5, e2_0_6, e2_0_7, e2_0_8, e2_0_9, e2_0_10, e2_0_11, e2_0_12, e2_0_24, e2_0_25, e2_0_28, e2_0_29, e2_0_30, e2_0_34, e2_0_35, e2_0_36, e2_0_38, ld_i, st_i, la_i, sl_i, nI_add, pk_mul, pk_sub, ng_add, neg_neg_n, nlt, nle, neq, ng_lt, gn_lt, gg_lt, ng_le, gn_le, gg_le, ng_eq, gn_eq, gg_eq, dv_i, if_pos, if_neg, ite_tt, ite_ff, if_b2, if_b2n, l_0, l_1, l_2, l_3, l_4, l_5, l_6, l_7, l_8, l_9, l_10, l_11, l_12, l_13, l_16, l_20, l_24, l_30, l_32, l_33, l_38, l_42, l_43, l_45, l_47, l_48, l_50, l_57, l_60, l_61, l_62, l_96, l_97, l_99, l_100, l_102, l_105, l_110, l_121, l_122, l_124, l_128, l_200, l_255, l_270, l_350, l_360, l_400, l_440, l_490, l_500, l_999, l_1000, l_9999, l_10000, l_99999, l_100000, l_1000000, l_1000000001, l_1000000002, l_1000000003, l_1000000005, l_1000000011, l_1000000012, l_1000000013, l_1000000014, up_a, up_k, up_same, h15', h14', hsA]
      refine ih (m - 1) _ (by omega) ⟨j + 1, by omega, by omega, hi, (hF.u (by omega)).u (by omega), ?_, up_same _ _ _ _, fun q => absurd q (by omega)⟩
      simp (maxSteps := 1000000) (disch := omega) only [up_a, up_k, up_same, h14']
  · have hja : a < j := by
      rcases (show j = a ∨ a < j by omega) with e | e
      · rw [e] at hc; exact absurd hs hc
      · exact e
    have hst : Stop (fun j => srt n B j = 2) (a + 1) j := ⟨hja, fun i x y => hp i (by omega) y, hc⟩
    rw [show b2 (srt n B j = 2) = nI 0 from if_neg hc] at hsA
    rcases (show v9 = 0 ∨ v9 = 1 by omega) with rfl | rfl
    · by_cases h1 : j ≤ a + 4
      · simp (maxSteps := 1000000) (disch := omega) only [vv_e, mm_e, jn_e, bd_e, bd_i, ld_i, st_i, la_i, sl_i, nI_add, pk_mul, pk_sub, ng_add, neg_neg_n, nlt, nle, neq, ng_lt, gn_lt, gg_lt, ng_le, gn_le, gg_le, ng_eq, gn_eq, gg_eq, dv_i, if_pos, if_neg, ite_tt, ite_ff, if_b2, if_b2n, l_0, l_1, l_2, l_3, l_4, l_5, l_6, l_7, l_8, l_9, l_10, l_11, l_12, l_13, l_16, l_20, l_24, l_30, l_32, l_33, l_38, l_42, l_43, l_45, l_47, l_48, l_50, l_57, l_60, l_61, l_62, l_96, l_97, l_99, l_100, l_102, l_105, l_110, l_121, l_122, l_124, l_128, l_200, l_255, l_270, l_350, l_360, l_400, l_440, l_490, l_500, l_999, l_1000, l_9999, l_10000, l_99999, l_100000, l_1000000, l_1000000001, l_1000000002, l_1000000003, l_1000000005, l_1000000011, l_1000000012, l_1000000013, l_1000000014, up_a, up_k, up_same, h15', h14', hsA]
        refine Res.mk ⟨hF.u (by omega), ?_, j, hst, by omega, ?_, ?_, fun q => ?_⟩
        · simp (maxSteps := 1000000) (disch := omega) only [up_a, up_k, up_same, h14']
        · simp (maxSteps := 1000000) (disch := omega) only [up_a, up_k, up_same, h15']
        · rw [up_same, if_pos ⟨by trivial, h1⟩]
        · rw [up_k _ _ _ _ _ (by decide)]; exact h17' q
      · simp (maxSteps := 1000000) (disch := omega) only [vv_e, mm_e, jn_e, bd_e, bd_i, ld_i, st_i, la_i, sl_i, nI_add, pk_mul, pk_sub, ng_add, neg_neg_n, nlt, nle, neq, ng_lt, gn_lt, gg_lt, ng_le, gn_le, gg_le, ng_eq, gn_eq, gg_eq, dv_i, if_pos, if_neg, ite_tt, ite_ff, if_b2, if_b2n, l_0, l_1, l_2, l_3, l_4, l_5, l_6, l_7, l_8, l_9, l_10, l_11, l_12, l_13, l_16, l_20, l_24, l_30, l_32, l_33, l_38, l_42, l_43, l_45, l_47, l_48, l_50, l_57, l_60, l_61, l_62, l_96, l_97, l_99, l_100, l_102, l_105, l_110, l_121, l_122, l_124, l_128, l_200, l_255, l_270, l_350, l_360, l_400, l_440, l_490, l_500, l_999, l_1000, l_9999, l_10000, l_99999, l_100000, l_1000000, l_1000000001, l_1000000002, l_1000000003, l_1000000005, l_1000000011, l_1000000012, l_1000000013, l_1000000014, up_a, up_k, up_same, h15', h14', hsA]
        refine Res.mk ⟨hF.u (by omega), ?_, j, hst, by omega, ?_, ?_, fun q => absurd q h1⟩
        · simp (maxSteps := 1000000) (disch := omega) only [up_a, up_k, up_same, h14']
        · simp (maxSteps := 1000000) (disch := omega) only [up_a, up_k, up_same, h15']
        · rw [up_same, if_neg (by omega)]
    · simp (maxSteps := 1000000) (disch := omega) only [vv_e, mm_e, jn_e, bd_e, bd_i, ld_i, st_i, la_i, sl_i, nI_add, pk_mul, pk_sub, ng_add, neg_neg_n, nlt, nle, neq, ng_lt, gn_lt, gg_lt, ng_le, gn_le, gg_le, ng_eq, gn_eq, gg_eq, dv_i, if_pos, if_neg, ite_tt, ite_ff, if_b2, if_b2n, l_0, l_1, l_2, l_3, l_4, l_5, l_6, l_7, l_8, l_9, l_10, l_11, l_12, l_13, l_16, l_20, l_24, l_30, l_32, l_33, l_38, l_42, l_43, l_45, l_47, l_48, l_50, l_57, l_60, l_61, l_62, l_96, l_97, l_99, l_100, l_102, l_105, l_110, l_121, l_122, l_124, l_128, l_200, l_255, l_270, l_350, l_360, l_400, l_440, l_490, l_500, l_999, l_1000, l_9999, l_10000, l_99999, l_100000, l_1000000, l_1000000001, l_1000000002, l_1000000003, l_1000000005, l_1000000011, l_1000000012, l_1000000013, l_1000000014, up_a, up_k, up_same, h15', h14', hsA]
      refine Res.mk ⟨hF.u (by omega), ?_, j, hst, by omega, ?_, ?_, fun q => ?_⟩
      · simp (maxSteps := 1000000) (disch := omega) only [up_a, up_k, up_same, h14']
      · simp (maxSteps := 1000000) (disch := omega) only [up_a, up_k, up_same, h15']
      · exact up_same _ _ _ _
      · rw [up_k _ _ _ _ _ (by decide)]; exact h17' q
def AtM (n : Nat) (B : Nat → Nat) (v9 : Nat) (N N' : Mem) (a : Nat) : Prop := GT N N' ∧ N' 0 14 = nI a ∧ ∃ e, N' 0 15 = nI e ∧ e ≤ n ∧ ((srt n B a = 0 ∧ e = a ∧ N' 0 16 = nI 0) ∨ (srt n B a = 3 ∧ e = a + 1 ∧ N' 0 16 = nI 3 ∧ N' 0 18 = nI (B a)) ∨ (srt n B a = 1 ∧ Stop (fun j => srt n B j = 1) (a + 1) e ∧ N' 0 16 = nI (if v9 = 0 then 1 else 4) ∧ N' 0 18 = nI (if e = a + 1 then B a else 0)) ∨ (srt n B a = 2 ∧ Stop (fun j => srt n B j = 2) (a + 1) e ∧ N' 0 16 = nI (if v9 = 0 ∧ e ≤ a + 4 then 2 else 4) ∧ (e ≤ a + 4 → N' 0 17 = nI (vl B a (e - a)))))
theorem m_t {n : Nat} {B : Nat → Nat} {N : Mem} {a v9 : Nat} (h : BM n B N) (ha : a ≤ n) (h15 : N 0 15 = nI a) (hv : v9 ≤ 1) : Res (fun _ N' => AtM n B v9 N N' a) (mT (nI v9) N) := by
  have hn := h.1
  have e1 := h.2.1
  have hB1 : BM n B (up N 0 14 (nI a)) := h.gt (GT.r.u (by omega))
  have hsA := m_isLetter hB1 a (by omega)
  have hsD := m_isDigit hB1 a (by omega)
  unfold mT
  rcases srt_c n B a with ⟨e, q⟩ | ⟨e, q⟩ | ⟨e, q⟩ | ⟨e, q⟩
  · simp (maxSteps := 1000000) (disch := omega) only [vv_e, mm_e, jn_e, bd_e, bd_i, ld_i, st_i, la_i, sl_i, nI_add, pk_mul, pk_sub, ng_add, neg_neg_n, nlt, nle, neq, ng_lt, gn_lt, gg_lt, ng_le, gn_le, gg_le, ng_eq, gn_eq, gg_eq, dv_i, if_pos, if_neg, ite_tt, ite_ff, if_b2, if_b2n, l_0, l_1, l_2, l_3, l_4, l_5, l_6, l_7, l_8, l_9, l_10, l_11, l_12, l_13, l_16, l_20, l_24, l_30, l_32, l_33, l_38, l_42, l_43, l_45, l_47, l_48, l_50, l_57, l_60, l_61, l_62, l_96, l_97, l_99, l_100, l_102, l_105, l_110, l_121, l_122, l_124, l_128, l_200, l_255, l_270, l_350, l_360, l_400, l_440, l_490, l_500, l_999, l_1000, l_9999, l_10000, l_99999, l_100000, l_1000000, l_1000000001, l_1000000002, l_1000000003, l_1000000005, l_1000000011, l_1000000012, l_1000000013, l_1000000014, up_a, up_k, up_same, h15, e1]
    refine Res.mk ⟨(GT.r.u (by omega)).u (by omega), ?_, a, ?_, by omega, Or.inl ⟨e, rfl, up_same _ _ _ _⟩⟩
    · simp (maxSteps := 1000000) (disch := omega) only [up_a, up_k, up_same]
    · simp (maxSteps := 1000000) (disch := omega) only [up_a, up_k, up_same, h15]
  · rw [show b2 (srt n B a = 1) = nI 1 from if_pos e] at hsA
    simp (maxSteps := 1000000) (disch := omega) only [vv_e, mm_e, jn_e, bd_e, bd_i, ld_i, st_i, la_i, sl_i, nI_add, pk_mul, pk_sub, ng_add, neg_neg_n, nlt, nle, neq, ng_lt, gn_lt, gg_lt, ng_le, gn_le, gg_le, ng_eq, gn_eq, gg_eq, dv_i, if_pos, if_neg, ite_tt, ite_ff, if_b2, if_b2n, l_0, l_1, l_2, l_3, l_4, l_5, l_6, l_7, l_8, l_9, l_10, l_11, l_12, l_13, l_16, l_20, l_24, l_30, l_32, l_33, l_38, l_42, l_43, l_45, l_47, l_48, l_50, l_57, l_60, l_61, l_62, l_96, l_97, l_99, l_100, l_102, l_105, l_110, l_121, l_122, l_124, l_128, l_200, l_255, l_270, l_350, l_360, l_400, l_440, l_490, l_500, l_999, l_1000, l_9999, l_10000, l_99999, l_100000, l_1000000, l_1000000001, l_1000000002, l_1000000003, l_1000000005, l_1000000011, l_1000000012, l_1000000013, l_1000000014, up_a, up_k, up_same, h15, e1, hsA]
    refine (m_l (a := a) hB1 q.1 (up_same _ _ _ _) ((up_k _ _ _ _ _ (by decide)).trans h15) e hv).imp ?_
    rintro _ N' ⟨f1, f2, e1, f3, f4, f5, f6, f7⟩
    exact ⟨(GT.r.u (by omega) : GT N _).t f1, f2, e1, f5, f4, Or.inr (Or.inr (Or.inl ⟨e, f3, f6, f7⟩))⟩
  · rw [show b2 (srt n B a = 1) = nI 0 from if_neg (by omega)] at hsA
    rw [show b2 (srt n B a = 2) = nI 1 from if_pos e] at hsD
    simp (maxSteps := 1000000) (disch := omega) only [vv_e, mm_e, jn_e, bd_e, bd_i, ld_i, st_i, la_i, sl_i, nI_add, pk_mul, pk_sub, ng_add, neg_neg_n, nlt, nle, neq, ng_lt, gn_lt, gg_lt, ng_le, gn_le, gg_le, ng_eq, gn_eq, gg_eq, dv_i, if_pos, if_neg, ite_tt, ite_ff, if_b2, if_b2n, l_0, l_1, l_2, l_3, l_4, l_5, l_6, l_7, l_8, l_9, l_10, l_11, l_12, l_13, l_16, l_20, l_24, l_30, l_32, l_33, l_38, l_42, l_43, l_45, l_47, l_48, l_50, l_57, l_60, l_61, l_62, l_96, l_97, l_99, l_100, l_102, l_105, l_110, l_121, l_122, l_124, l_128, l_200, l_255, l_270, l_350, l_360, l_400, l_440, l_490, l_500, l_999, l_1000, l_9999, l_10000, l_99999, l_100000, l_1000000, l_1000000001, l_1000000002, l_1000000003, l_1000000005, l_1000000011, l_1000000012, l_1000000013, l_1000000014, up_a, up_k, up_same, h15, e1, hsA, hsD]
    refine (m_d (a := a) (hB1.gt (GT.r.u (by omega))) q.1 (by simp (maxSteps := 1000000) (disch := omega) only [up_a, up_k, up_same]) (by simp (maxSteps := 1000000) (disch := omega) only [up_a, up_k, up_same, h15]) (up_same _ _ _ _) e hv).imp ?_
    rintro _ N' ⟨f1, f2, e1, f3, f4, f5, f6, f7⟩
    exact ⟨((GT.r.u (by omega)).u (by omega) : GT N _).t f1, f2, e1, f5, f4, Or.inr (Or.inr (Or.inr ⟨e, f3, f6, f7⟩))⟩
  · obtain ⟨hu, eb⟩ := h.2.2 a q.1
    rw [show b2 (srt n B a = 1) = nI 0 from if_neg (by omega)] at hsA
    rw [show b2 (srt n B a = 2) = nI 0 from if_neg (by omega)] at hsD
    simp (maxSteps := 1000000) (disch := omega) only [vv_e, mm_e, jn_e, bd_e, bd_i, e2_0_0, e2_0_1, e2_0_2, e2_0_4, e2_0_5, e2_0_6, e2_0_7, e2_0_8, e2_0_9, e2_0_10, e2_0_11, e2_0_12, e2_0_24, e2_0_25, e2_0_28, e2_0_29, e2_0_30, e2_0_34, e2_0_35, e2_0_36, e2_0_38, ld_i, st_i, la_i, sl_i, nI_add, pk_mul, pk_sub, ng_add, neg_neg_n, nlt, nle, neq, ng_lt, gn_lt, gg_lt, ng_le, gn_le, gg_le, ng_eq, gn_eq, gg_eq, dv_i, if_pos, if_neg, ite_tt, ite_ff, if_b2, if_b2n, l_0, l_1, l_2, l_3, l_4, l_5, l_6, l_7, l_8, l_9, l_10, l_11, l_12, l_13, l_16, l_20, l_24, l_30, l_32, l_33, l_38, l_42, l_43, l_45, l_47, l_48, l_50, l_57, l_60, l_61, l_62, l_96, l_97, l_99, l_100, l_102, l_105, l_110, l_121, l_122, l_124, l_128, l_200, l_255, l_270, l_350, l_360, l_400, l_440, l_490, l_500, l_999, l_1000, l_9999, l_10000, l_99999, l_100000, l_1000000, l_1000000001, l_1000000002, l_1000000003, l_1000000005, l_1000000011, l_1000000012, l_1000000013, l_1000000014, up_a, up_k, up_same, h15, e1, hsA, hsD, eb]
    refine Res.mk ⟨(((GT.r.u (by omega)).u (by omega)).u (by omega)).u (by omega), ?_, a + 1, up_same _ _ _ _, by omega, Or.inr (Or.inl ⟨e, rfl, ?_, ?_⟩)⟩
    · simp (maxSteps := 1000000) (disch := omega) only [up_a, up_k, up_same]
    · simp (maxSteps := 1000000) (disch := omega) only [up_a, up_k, up_same]
    · simp (maxSteps := 1000000) (disch := omega) only [up_a, up_k, up_same]
theorem m_s {n : Nat} {B : Nat → Nat} {N : Mem} {b w2 : Nat} (h : BM n B N) (hb : b ≤ n) (h15 : N 0 15 = nI b) (hw : w2 ≤ 1) :
    Res (fun _ N' => ∃ a, a ≤ n ∧ Stop (fun j => j < n ∧ B j = 32) b a ∧ AtM n B (if w2 = 1 ∧ b = a then 1 else 0) N N' a) (mS (nI w2) (nI b) N) := by
  have hn := h.1
  unfold mS
  refine lo0 (fun m N1 => ∃ j, m + j = n ∧ b ≤ j ∧ (∀ i, b ≤ i → i < j → i < n ∧ B i = 32) ∧ GT N N1 ∧ N1 0 15 = nI j) ?_ fuel (n - b) N (by show n - b < 5000; omega) ⟨b, by omega, Nat.le_refl _, fun i a c => absurd c (by omega), GT.r, h15⟩
  rintro m rc N1 ⟨j, hj, hj0, hp, hF, h15'⟩ ih
  have hB := h.gt hF
  have e1 := hB.2.1
  by_cases hc : j < n ∧ B j = 32
  · obtain ⟨hu, eb⟩ := hB.2.2 j hc.1
    rw [hc.2] at eb
    simp (maxSteps := 1000000) (disch := omega) only [vv_e, mm_e, jn_e, bd_e, bd_i, e2_0_0, e2_0_1, e2_0_2, e2_0_4, e2_0_5, e2_0_6, e2_0_7, e2_0_8, e2_0_9, e2_0_10, e2_0_11, e2_0_12, e2_0_24, e2_0_25, e2_0_28, e2_0_29, e2_0_30, e2_0_34, e2_0_35, e2_0_36, e2_0_38, ld_i, st_i, la_i, sl_i, nI_add, pk_mul, pk_sub, ng_add, neg_neg_n, nlt, nle, neq, ng_lt, gn_lt, gg_lt, ng_le, gn_le, gg_le, ng_eq, gn_eq, gg_eq, dv_i, if_pos, if_neg, ite_tt, ite_ff, if_b2, if_b2n, l_0, l_1, l_2, l_3, l_4, l_5, l_6, l_7, l_8, l_9, l_10, l_11, l_12, l_13, l_16, l_20, l_24, l_30, l_32, l_33, l_38, l_42, l_43, l_45, l_47, l_48, l_50, l_57, l_60, l_61, l_62, l_96, l_97, l_99, l_100, l_102, l_105, l_110, l_121, l_122, l_124, l_128, l_200, l_255, l_270, l_350, l_360, l_400, l_440, l_490, l_500, l_999, l_1000, l_9999, l_10000, l_99999, l_100000, l_1000000, l_1000000001, l_1000000002, l_1000000003, l_1000000005, l_1000000011, l_1000000012, l_1000000013, l_1000000014, h15', e1, eb]
    refine ih (m - 1) _ (by omega) ⟨j + 1, by omega, by omega, fun i a c => ?_, hF.u (by omega), up_same _ _ _ _⟩
    by_cases e : i = j
    · rw [e]; exact hc
    · exact hp i a (by omega)
  · have hst : Stop (fun j => j < n ∧ B j = 32) b j := ⟨hj0, hp, hc⟩
    have fin : Res (fun _ N' => ∃ a, a ≤ n ∧ Stop (fun j => j < n ∧ B j = 32) b a ∧ AtM n B (if w2 = 1 ∧ b = a then 1 else 0) N N' a) (if nI w2 = nI 0 then mT (nI 0) N1 else (if nI b = nI j then mT (nI 1) N1 else mT (nI 0) N1)) := by
      by_cases hbj : w2 = 1 ∧ b = j
      · simp (maxSteps := 1000000) (disch := omega) only [ld_i, st_i, la_i, sl_i, nI_add, pk_mul, pk_sub, ng_add, neg_neg_n, nlt, nle, neq, ng_lt, gn_lt, gg_lt, ng_le, gn_le, gg_le, ng_eq, gn_eq, gg_eq, dv_i, if_pos, if_neg, ite_tt, ite_ff, if_b2, if_b2n, l_0, l_1, l_2, l_3, l_4, l_5, l_6, l_7, l_8, l_9, l_10, l_11, l_12, l_13, l_16, l_20, l_24, l_30, l_32, l_33, l_38, l_42, l_43, l_45, l_47, l_48, l_50, l_57, l_60, l_61, l_62, l_96, l_97, l_99, l_100, l_102, l_105, l_110, l_121, l_122, l_124, l_128, l_200, l_255, l_270, l_350, l_360, l_400, l_440, l_490, l_500, l_999, l_1000, l_9999, l_10000, l_99999, l_100000, l_1000000, l_1000000001, l_1000000002, l_1000000003, l_1000000005, l_1000000011, l_1000000012, l_1000000013, l_1000000014]
        refine (m_t hB (by omega) h15' (by omega)).imp (fun _ M' g => ⟨j, by omega, hst, ?_⟩)
        rw [if_pos hbj]
        exact ⟨hF.t g.1, g.2⟩
      · have g0 : Res (fun _ N' => ∃ a, a ≤ n ∧ Stop (fun j => j < n ∧ B j = 32) b a ∧ AtM n B (if w2 = 1 ∧ b = a then 1 else 0) N N' a) (mT (nI 0) N1) := by
          refine (m_t hB (by omega) h15' (by omega)).imp (fun _ M' g => ⟨j, by omega, hst, ?_⟩)
          rw [if_neg hbj]
          exact ⟨hF.t g.1, g.2⟩
        refine Res.of g0 ?_
        by_cases hw0 : w2 = 0
        · simp (maxSteps := 1000000) (disch := omega) only [ld_i, st_i, la_i, sl_i, nI_add, pk_mul, pk_sub, ng_add, neg_neg_n, nlt, nle, neq, ng_lt, gn_lt, gg_lt, ng_le, gn_le, gg_le, ng_eq, gn_eq, gg_eq, dv_i, if_pos, if_neg, ite_tt, ite_ff, if_b2, if_b2n, l_0, l_1, l_2, l_3, l_4, l_5, l_6, l_7, l_8, l_9, l_10, l_11, l_12, l_13, l_16, l_20, l_24, l_30, l_32, l_33, l_38, l_42, l_43, l_45, l_47, l_48, l_50, l_57, l_60, l_61, l_62, l_96, l_97, l_99, l_100, l_102, l_105, l_110, l_121, l_122, l_124, l_128, l_200, l_255, l_270, l_350, l_360, l_400, l_440, l_490, l_500, l_999, l_1000, l_9999, l_10000, l_99999, l_100000, l_1000000, l_1000000001, l_1000000002, l_1000000003, l_1000000005, l_1000000011, l_1000000012, l_1000000013, l_1000000014]
        · simp (maxSteps := 1000000) (disch := omega) only [ld_i, st_i, la_i, sl_i, nI_add, pk_mul, pk_sub, ng_add, neg_neg_n, nlt, nle, neq, ng_lt, gn_lt, gg_lt, ng_le, gn_le, gg_le, ng_eq, gn_eq, gg_eq, dv_i, if_pos, if_neg, ite_tt, ite_ff, if_b2, if_b2n, l_0, l_1, l_2, l_3, l_4, l_5, l_6, l_7, l_8, l_9, l_10, l_11, l_12, l_13, l_16, l_20, l_24, l_30, l_32, l_33, l_38, l_42, l_43, l_45, l_47, l_48, l_50, l_57, l_60, l_61, l_62, l_96, l_97, l_99, l_100, l_102, l_105, l_110, l_121, l_122, l_124, l_128, l_200, l_255, l_270, l_350, l_360, l_400, l_440, l_490, l_500, l_999, l_1000, l_9999, l_10000, l_99999, l_100000, l_1000000, l_1000000001, l_1000000002, l_1000000003, l_1000000005, l_1000000011, l_1000000012, l_1000000013, l_1000000014]
    by_cases hjn : j < n
    · obtain ⟨hu, eb⟩ := hB.2.2 j hjn
      have hne : ¬ N1 12 j = nI 32 := by
        rw [eb, neq (by omega) (by omega)]; omega
      rw [vv_e, vv_e, jn_e, h15', e1, if_pos (show nI j < nI n by rw [nlt (by omega) (by omega)]; exact hjn)]
      rw [vv_e, e2_0_12, vv_e, ld_i (by omega) (by omega), if_neg (show ¬ N1 12 j = 32 from hne)]
      show Res _ (jn _ _)
      rw [jn_e]
      show Res _ (if nI w2 = 0 then mT 0 N1 else vv (N1 0 15) fun x52 => if nI b = x52 then mT 1 N1 else mT 0 N1)
      rw [vv_e, h15']
      exact fin
    · rw [vv_e, vv_e, jn_e, h15', e1, if_neg (show ¬ nI j < nI n by rw [nlt (by omega) (by omega)]; exact hjn)]
      show Res _ (jn _ _)
      rw [jn_e]
      show Res _ (if nI w2 = 0 then mT 0 N1 else vv (N1 0 15) fun x52 => if nI b = x52 then mT 1 N1 else mT 0 N1)
      rw [vv_e, h15']
      exact fin
theorem m_goesOn {n : Nat} {B : Nat → Nat} {N : Mem} {b t : Nat} (h : BM n B N) (hb : b ≤ n) (h15 : N 0 15 = nI b) (h16 : N 0 16 = nI t) (ht : t < 5) :
    Res (fun _ N' => ∃ a, a ≤ n ∧ Stop (fun j => j < n ∧ B j = 32) b a ∧ AtM n B (if (0 < b ∧ (t = 1 ∨ t = 2)) ∧ b = a then 1 else 0) N N' a) (f_X10_goesOn 0 N) := by
  have hn := h.1
  rw [go_eq, h15, h16]
  by_cases hw : 0 < b ∧ (t = 1 ∨ t = 2)
  · have main := m_s h hb h15 (w2 := 1) (by omega)
    have main' : Res (fun _ N' => ∃ a, a ≤ n ∧ Stop (fun j => j < n ∧ B j = 32) b a ∧ AtM n B (if (0 < b ∧ (t = 1 ∨ t = 2)) ∧ b = a then 1 else 0) N N' a) (mS (nI 1) (nI b) N) := by
      refine main.imp ?_
      rintro _ N' ⟨a, h1, h2, h3⟩
      refine ⟨a, h1, h2, ?_⟩
      by_cases e : b = a
      · rw [if_pos ⟨rfl, e⟩] at h3; rw [if_pos ⟨hw, e⟩]; exact h3
      · rw [if_neg (fun q => e q.2)] at h3; rw [if_neg (fun q => e q.2)]; exact h3
    obtain ⟨hw1, rfl | rfl⟩ := hw
    · refine Res.of main' ?_
      simp (maxSteps := 1000000) (disch := omega) only [ld_i, st_i, la_i, sl_i, nI_add, pk_mul, pk_sub, ng_add, neg_neg_n, nlt, nle, neq, ng_lt, gn_lt, gg_lt, ng_le, gn_le, gg_le, ng_eq, gn_eq, gg_eq, dv_i, if_pos, if_neg, ite_tt, ite_ff, if_b2, if_b2n, l_0, l_1, l_2, l_3, l_4, l_5, l_6, l_7, l_8, l_9, l_10, l_11, l_12, l_13, l_16, l_20, l_24, l_30, l_32, l_33, l_38, l_42, l_43, l_45, l_47, l_48, l_50, l_57, l_60, l_61, l_62, l_96, l_97, l_99, l_100, l_102, l_105, l_110, l_121, l_122, l_124, l_128, l_200, l_255, l_270, l_350, l_360, l_400, l_440, l_490, l_500, l_999, l_1000, l_9999, l_10000, l_99999, l_100000, l_1000000, l_1000000001, l_1000000002, l_1000000003, l_1000000005, l_1000000011, l_1000000012, l_1000000013, l_1000000014]
    · refine Res.of main' ?_
      simp (maxSteps := 1000000) (disch := omega) only [ld_i, st_i, la_i, sl_i, nI_add, pk_mul, pk_sub, ng_add, neg_neg_n, nlt, nle, neq, ng_lt, gn_lt, gg_lt, ng_le, gn_le, gg_le, ng_eq, gn_eq, gg_eq, dv_i, if_pos, if_neg, ite_tt, ite_ff, if_b2, if_b2n, l_0, l_1, l_2, l_3, l_4, l_5, l_6, l_7, l_8, l_9, l_10, l_11, l_12, l_13, l_16, l_20, l_24, l_30, l_32, l_33, l_38, l_42, l_43, l_45, l_47, l_48, l_50, l_57, l_60, l_61, l_62, l_96, l_97, l_99, l_100, l_102, l_105, l_110, l_121, l_122, l_124, l_128, l_200, l_255, l_270, l_350, l_360, l_400, l_440, l_490, l_500, l_999, l_1000, l_9999, l_10000, l_99999, l_100000, l_1000000, l_1000000001, l_1000000002, l_1000000003, l_1000000005, l_1000000011, l_1000000012, l_1000000013, l_1000000014]
  · have main := m_s h hb h15 (w2 := 0) (by omega)
    have main' : Res (fun _ N' => ∃ a, a ≤ n ∧ Stop (fun j => j < n ∧ B j = 32) b a ∧ AtM n B (if (0 < b ∧ (t = 1 ∨ t = 2)) ∧ b = a then 1 else 0) N N' a) (mS (nI 0) (nI b) N) := by
      refine main.imp ?_
      rintro _ N' ⟨a, h1, h2, h3⟩
      refine ⟨a, h1, h2, ?_⟩
      rw [if_neg (fun q => absurd q.1 (by decide))] at h3; rw [if_neg (fun q => hw q.1)]; exact h3
    by_cases hb0 : 0 < b
    · refine Res.of main' ?_
      simp (maxSteps := 1000000) (disch := omega) only [ld_i, st_i, la_i, sl_i, nI_add, pk_mul, pk_sub, ng_add, neg_neg_n, nlt, nle, neq, ng_lt, gn_lt, gg_lt, ng_le, gn_le, gg_le, ng_eq, gn_eq, gg_eq, dv_i, if_pos, if_neg, ite_tt, ite_ff, if_b2, if_b2n, l_0, l_1, l_2, l_3, l_4, l_5, l_6, l_7, l_8, l_9, l_10, l_11, l_12, l_13, l_16, l_20, l_24, l_30, l_32, l_33, l_38, l_42, l_43, l_45, l_47, l_48, l_50, l_57, l_60, l_61, l_62, l_96, l_97, l_99, l_100, l_102, l_105, l_110, l_121, l_122, l_124, l_128, l_200, l_255, l_270, l_350, l_360, l_400, l_440, l_490, l_500, l_999, l_1000, l_9999, l_10000, l_99999, l_100000, l_1000000, l_1000000001, l_1000000002, l_1000000003, l_1000000005, l_1000000011, l_1000000012, l_1000000013, l_1000000014]
    · refine Res.of main' ?_
      simp (maxSteps := 1000000) (disch := omega) only [ld_i, st_i, la_i, sl_i, nI_add, pk_mul, pk_sub, ng_add, neg_neg_n, nlt, nle, neq, ng_lt, gn_lt, gg_lt, ng_le, gn_le, gg_le, ng_eq, gn_eq, gg_eq, dv_i, if_pos, if_neg, ite_tt, ite_ff, if_b2, if_b2n, l_0, l_1, l_2, l_3, l_4, l_5, l_6, l_7, l_8, l_9, l_10, l_11, l_12, l_13, l_16, l_20, l_24, l_30, l_32, l_33, l_38, l_42, l_43, l_45, l_47, l_48, l_50, l_57, l_60, l_61, l_62, l_96, l_97, l_99, l_100, l_102, l_105, l_110, l_121, l_122, l_124, l_128, l_200, l_255, l_270, l_350, l_360, l_400, l_440, l_490, l_500, l_999, l_1000, l_9999, l_10000, l_99999, l_100000, l_1000000, l_1000000001, l_1000000002, l_1000000003, l_1000000005, l_1000000011, l_1000000012, l_1000000013, l_1000000014]
/-! both -/
def TK (n : Nat) (B : Nat → Nat) (M N : Mem) (a b s : Nat) : Prop := BC n B M ∧ BM n B N ∧ M 61 8 = nI a ∧ M 61 9 = nI b ∧ M 61 10 = nI s ∧ N 0 14 = nI a ∧ N 0 15 = nI b ∧ a ≤ b ∧ b ≤ n ∧
  ((s = 0 ∧ a = n ∧ N 0 16 = nI 0) ∨ (s = 3 ∧ b = a + 1 ∧ B a < 256 ∧ N 0 16 = nI 3 ∧ N 0 18 = nI (B a)) ∨
   (s = 1 ∧ a < b ∧ (∀ j, a ≤ j → j < b → 97 ≤ B j ∧ B j ≤ 122) ∧ N 0 16 = nI 1 ∧ N 0 18 = nI (if b = a + 1 then B a else 0)) ∨
   (s = 2 ∧ a < b ∧ b ≤ a + 4 ∧ (∀ j, a ≤ j → j < b → 48 ≤ B j ∧ B j ≤ 57) ∧ N 0 16 = nI 2 ∧ N 0 17 = nI (vl B a (b - a))) ∨
   (s = 2 ∧ a + 4 < b ∧ N 0 16 = nI 4) ∨ (s = 4 ∧ a < b ∧ N 0 16 = nI 4))
theorem fwd0 {n : Nat} {B : Nat → Nat} {M N : Mem} {b s t : Nat} (hC : BC n B M) (hM : BM n B N) (hb : b ≤ n) (c9 : M 61 9 = nI b) (c10 : M 61 10 = nI s) (hs : s < 5) (m15 : N 0 15 = nI b) (m16 : N 0 16 = nI t) (ht : t < 5) (hw : (s = 1 ∨ s = 2) ↔ (0 < b ∧ (t = 1 ∨ t = 2))) :
    ∃ r M' r' N' a e q, f_X7_forward 61 M = some (r, M') ∧ f_X10_goesOn 0 N = some (r', N') ∧ FT M M' ∧ GT N N' ∧ TK n B M' N' a e q ∧ b ≤ a := by
  obtain ⟨r, M', e1, a, ha, st1, hF, h8, e, q, h9, he, h10, hcas⟩ := c_forward hC hb c9 c10 hs
  obtain ⟨r', N', e2, a2, ha2, st2, hG, h14, e3, h15, he3, hcas2⟩ := m_goesOn hM hb m15 m16 ht
  obtain rfl := st1.q st2
  have hbm : a < n → B a < 256 := fun q => (hC.2.2 a q).1
  refine ⟨r, M', r', N', a, e, q, e1, e2, hF, hG, ⟨hC.ft hF, hM.gt hG, h8, h9, h10, h14, ?_⟩, st1.1⟩
  rcases srt_c n B a with ⟨c, q1⟩ | ⟨c, q1⟩ | ⟨c, q1⟩ | ⟨c, q1⟩
  · rcases hcas with ⟨_, rfl, rfl⟩ | ⟨c', _⟩ | ⟨c', _⟩
    · rcases hcas2 with ⟨_, rfl, g⟩ | ⟨c', _⟩ | ⟨c', _⟩ | ⟨c', _⟩
      · exact ⟨h15, by omega, by omega, Or.inl ⟨rfl, by omega, g⟩⟩
      all_goals omega
    · omega
    · omega
  · rcases hcas with ⟨c', _⟩ | ⟨c', _⟩ | ⟨c', st3, rfl⟩
    · omega
    · omega
    rcases hcas2 with ⟨c', _⟩ | ⟨c', _⟩ | ⟨_, st4, g1, g2⟩ | ⟨c', _⟩
    · omega
    · omega
    · rw [c] at st3
      obtain rfl := st3.q st4
      have hl : ∀ j, a ≤ j → j < e → 97 ≤ B j ∧ B j ≤ 122 := fun j x y => by
        by_cases ej : j = a
        · rw [ej]; exact q1.2
        · have := st3.2.1 j (by omega) y
          rcases srt_c n B j with ⟨e, q⟩ | ⟨e, q, q'⟩ | ⟨e, q, q'⟩ | ⟨e, q, q', q''⟩ <;> omega
      have hae : a < e := st3.1
      refine ⟨h15, by omega, by omega, ?_⟩
      by_cases hx : (s = 1 ∨ s = 2) ∧ b = a
      · rw [if_neg (show ¬ (if (0 < b ∧ (t = 1 ∨ t = 2)) ∧ b = a then 1 else 0) = 0 by rw [if_pos (show (0 < b ∧ (t = 1 ∨ t = 2)) ∧ b = a from ⟨hw.mp hx.1, hx.2⟩)]; decide)] at g1
        rw [if_pos (show (if s = 1 ∨ s = 2 then 1 else 0) = 1 ∧ (if b < a then 1 else 0) = 0 from ⟨if_pos hx.1, if_neg (by omega)⟩)]
        exact Or.inr (Or.inr (Or.inr (Or.inr (Or.inr ⟨rfl, hae, g1⟩))))
      · have hx' : ¬ ((0 < b ∧ (t = 1 ∨ t = 2)) ∧ b = a) := fun q => hx ⟨hw.mpr q.1, q.2⟩
        rw [if_neg hx', if_pos rfl] at g1
        have hz : ¬ ((if s = 1 ∨ s = 2 then 1 else 0) = 1 ∧ (if b < a then 1 else 0) = 0) := by
          have := st1.1
          intro hq
          apply hx
          by_cases h1 : s = 1 ∨ s = 2
          · refine ⟨h1, ?_⟩
            by_cases h2 : b < a
            · rw [if_pos h2] at hq; exact absurd hq.2 (by decide)
            · omega
          · rw [if_neg h1] at hq; exact absurd hq.1 (by decide)
        rw [if_neg hz, c]
        exact Or.inr (Or.inr (Or.inl ⟨rfl, hae, hl, g1, g2⟩))
    · omega
  · rcases hcas with ⟨c', _⟩ | ⟨c', _⟩ | ⟨c', st3, rfl⟩
    · omega
    · omega
    rcases hcas2 with ⟨c', _⟩ | ⟨c', _⟩ | ⟨c', _⟩ | ⟨_, st4, g1, g2⟩
    · omega
    · omega
    · omega
    · rw [c] at st3
      obtain rfl := st3.q st4
      have hl : ∀ j, a ≤ j → j < e → 48 ≤ B j ∧ B j ≤ 57 := fun j x y => by
        by_cases ej : j = a
        · rw [ej]; exact q1.2
        · have := st3.2.1 j (by omega) y
          rcases srt_c n B j with ⟨e, q⟩ | ⟨e, q, q'⟩ | ⟨e, q, q'⟩ | ⟨e, q, q', q''⟩ <;> omega
      have hae : a < e := st3.1
      refine ⟨h15, by omega, by omega, ?_⟩
      by_cases hx : (s = 1 ∨ s = 2) ∧ b = a
      · rw [if_neg (show ¬ ((if (0 < b ∧ (t = 1 ∨ t = 2)) ∧ b = a then 1 else 0) = 0 ∧ e ≤ a + 4) by rw [if_pos (show (0 < b ∧ (t = 1 ∨ t = 2)) ∧ b = a from ⟨hw.mp hx.1, hx.2⟩)]; omega)] at g1
        rw [if_pos (show (if s = 1 ∨ s = 2 then 1 else 0) = 1 ∧ (if b < a then 1 else 0) = 0 from ⟨if_pos hx.1, if_neg (by omega)⟩)]
        exact Or.inr (Or.inr (Or.inr (Or.inr (Or.inr ⟨rfl, hae, g1⟩))))
      · have hx' : ¬ ((0 < b ∧ (t = 1 ∨ t = 2)) ∧ b = a) := fun q => hx ⟨hw.mpr q.1, q.2⟩
        rw [if_neg hx'] at g1
        have hz : ¬ ((if s = 1 ∨ s = 2 then 1 else 0) = 1 ∧ (if b < a then 1 else 0) = 0) := by
          have := st1.1
          intro hq
          apply hx
          by_cases h1 : s = 1 ∨ s = 2
          · refine ⟨h1, ?_⟩
            by_cases h2 : b < a
            · rw [if_pos h2] at hq; exact absurd hq.2 (by decide)
            · omega
          · rw [if_neg h1] at hq; exact absurd hq.1 (by decide)
        rw [if_neg hz, c]
        by_cases h4 : e ≤ a + 4
        · rw [if_pos ⟨rfl, h4⟩] at g1
          exact Or.inr (Or.inr (Or.inr (Or.inl ⟨rfl, hae, h4, hl, g1, g2 h4⟩)))
        · rw [if_neg (fun q => h4 q.2)] at g1
          exact Or.inr (Or.inr (Or.inr (Or.inr (Or.inl ⟨rfl, by omega, g1⟩))))
  · rcases hcas with ⟨c', _⟩ | ⟨_, rfl, rfl⟩ | ⟨c', _⟩
    · omega
    · rcases hcas2 with ⟨c', _⟩ | ⟨_, rfl, g1, g2⟩ | ⟨c', _⟩ | ⟨c', _⟩
      · omega
      · exact ⟨h15, by omega, by omega, Or.inr (Or.inl ⟨rfl, rfl, hbm q1.1, g1, g2⟩)⟩
      all_goals omega
    · omega
