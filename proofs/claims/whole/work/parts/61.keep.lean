theorem l_14 : (14 : Int32) = nI 14 := congrArg Int32.ofNat (Eq.refl 14)
theorem l_36 : (36 : Int32) = nI 36 := congrArg Int32.ofNat (Eq.refl 36)
theorem l_40 : (40 : Int32) = nI 40 := congrArg Int32.ofNat (Eq.refl 40)
theorem l_72 : (72 : Int32) = nI 72 := congrArg Int32.ofNat (Eq.refl 72)
theorem l_1344 : (1344 : Int32) = nI 1344 := congrArg Int32.ofNat (Eq.refl 1344)
theorem l_3510 : (3510 : Int32) = nI 3510 := congrArg Int32.ofNat (Eq.refl 3510)
/-- two states of the class hold the same -/
def AgS (M : Mem) (b : Nat) (M' : Mem) (b' : Nat) : Prop := M' b' 6 = M b 6 ∧ M' b' 7 = M b 7 ∧ M' b' 8 = M b 8 ∧ M' (b' + 1) 0 = M (b + 1) 0 ∧ M' (b' + 1) 2 = M (b + 1) 2 ∧ M' (b' + 8) 0 = M (b + 8) 0 ∧ M' (b' + 18) 1 = M (b + 18) 1 ∧ M' (b' + 23) 0 = M (b + 23) 0 ∧ M' (b' + 23) 4 = M (b + 23) 4 ∧ (∀ j, j < 12 → M' (b' + 2) j = M (b + 2) j) ∧ (∀ j, j < 40 → M' (b' + 3) j = M (b + 3) j) ∧ (∀ j, j < 40 → M' (b' + 4) j = M (b + 4) j) ∧ (∀ j, j < 40 → M' (b' + 5) j = M (b + 5) j) ∧ (∀ j, j < 40 → M' (b' + 6) j = M (b + 6) j) ∧ (∀ j, j < 40 → M' (b' + 7) j = M (b + 7) j) ∧ (∀ j, j < 14 → M' (b' + 9) j = M (b + 9) j) ∧ (∀ j, j < 14 → M' (b' + 10) j = M (b + 10) j) ∧ (∀ j, j < 14 → M' (b' + 11) j = M (b + 11) j) ∧ (∀ j, j < 14 → M' (b' + 12) j = M (b + 12) j) ∧ (∀ j, j < 1344 → M' (b' + 13) j = M (b + 13) j) ∧ (∀ j, j < 6 → M' (b' + 16) j = M (b + 16) j) ∧ (∀ j, j < 72 → M' (b' + 17) j = M (b + 17) j) ∧ (∀ j, j < 36 → M' (b' + 19) j = M (b + 19) j) ∧ (∀ j, j < 20 → M' (b' + 20) j = M (b + 20) j) ∧ (∀ j, j < 20 → M' (b' + 21) j = M (b + 21) j) ∧ (∀ j, j < 16 → M' (b' + 24) j = M (b + 24) j) ∧ (∀ j, j < 16 → M' (b' + 25) j = M (b + 25) j) ∧ (∀ j, j < 16 → M' (b' + 26) j = M (b + 26) j) ∧ (∀ j, j < 8 → M' (b' + 27) j = M (b + 27) j) ∧ (∀ j, j < 6 → M' (b' + 28) j = M (b + 28) j)
theorem RS.move {nT nF nX nC nE nL nS b b' : Nat} {M M' : Mem} {g g' : Nat → Int32} (h : RS nT nF nX nC nE nL nS M b g) (a : AgS M b M' b') (e : ∀ j, j < 3510 → g' j = g j) : RS nT nF nX nC nE nL nS M' b' g' := by
  obtain ⟨f0_6, f0_7, f0_8, f1_0, f1_2, f8_0, f18_1, f23_0, f23_4, c2, c3, c4, c5, c6, c7, c9, c10, c11, c12, c13, c16, c17, c19, c20, c21, c24, c25, c26, c27, c28⟩ := a
  obtain ⟨hT, hF, hX, hL, hC, hR, hD, hN, hO, hZ⟩ := h
  have t3 : nT ≤ 12 := hT.2.2.1
  have f3 : nF ≤ 40 := hF.2.2.1
  have x3 : nX ≤ 14 := hX.2.2.1
  refine ⟨?_, ?_, ?_, ?_, ?_, ?_, ?_, ?_, ?_, ?_⟩
  · refine RT.cg (g := g) ?_ (fun j hj => e j (by omega))
    obtain ⟨h1, h2, h3, h4, h5⟩ := hT
    exact ⟨by rw [f1_0]; exact h1, h2, h3, fun t ht => by rw [c2 t (by omega)]; exact h4 t ht, fun t ht => by rw [c2 t (by omega), c2 (t + 1) (by omega)]; exact h5 t ht⟩
  · refine RF.cg (g := g) ?_ (fun j hj => e j (by omega))
    obtain ⟨h1, h2, h3, h4⟩ := hF
    exact ⟨by rw [f1_2]; exact h1, h2, h3, fun f hf => by rw [c3 f (by omega), c4 f (by omega), c5 f (by omega), c6 f (by omega), c7 f (by omega)]; exact h4 f hf⟩
  · refine RX.cg (g := g) ?_ (fun j hj => e j (by omega))
    obtain ⟨h1, h2, h3, h4⟩ := hX
    refine ⟨by rw [f8_0]; exact h1, h2, h3, fun t ht => ?_⟩
    obtain ⟨a1, a2, m, a3, a4, a5, d, d0, dm, a6⟩ := h4 t ht
    rw [c9 t (by omega), c10 t (by omega), c11 t (by omega), c12 t (by omega)]
    refine ⟨a1, a2, m, a3, a4, a5, d, d0, dm, fun k hk => ?_⟩
    show StepOK _ (M' (b' + 13) (96 * t + k)) _ _ _ _
    rw [c13 (96 * t + k) (by omega)]
    exact a6 k hk
  · refine RLn.cg (g := g) ?_ f3 (fun j hj => e j (by omega))
    obtain ⟨h1, h2⟩ := hL
    refine ⟨fun l hl => ?_, fun f hf => ?_⟩
    · obtain ⟨k, a1, a2, a3, a4, a5⟩ := h1 l hl
      refine ⟨k, a1, by rw [c16 l hl]; exact a2, a3, fun i hi => by rw [c17 (12 * l + i) (by omega)]; exact a4 i hi, fun i hi f f' q1 q2 q3 q4 => ?_⟩
      rw [c17 (12 * l + i) (by omega)] at q1
      rw [c17 (12 * l + (i + 1)) (by omega)] at q2
      rw [c3 f (by omega), c3 f' (by omega)]
      exact a5 i hi f f' q1 q2 q3 q4
    · rcases h2 f hf with ⟨q1, q2⟩ | ⟨l, i, q1, q2, q3, q4, q5⟩
      · refine Or.inl ⟨q1, fun l i d1 d2 d3 => ?_⟩
        rw [c16 l d1] at d2
        rw [c17 (12 * l + i) (by omega)]
        exact q2 l i d1 d2 d3
      · exact Or.inr ⟨l, i, q1, q2, by rw [c16 l q1]; exact q3, by rw [c17 (12 * l + i) (by omega)]; exact q4, q5⟩
  · refine RC.cg (g := g) ?_ (fun j hj => e j (by omega))
    obtain ⟨h1, h2, h3, h4⟩ := hC
    exact ⟨by rw [f0_6]; exact h1, h2, h3, fun k hk => by rw [c28 k (by omega)]; exact h4 k hk⟩
  · refine RR.cg (g := g) ?_ (fun j hj => e j (by omega))
    obtain ⟨h1, h2⟩ := hR
    exact ⟨fun i hi => by rw [c19 i hi]; exact h1 i hi, fun x y hx hy => by rw [c19 _ (by omega), c19 _ (by omega)]; exact h2 x y hx hy⟩
  · refine RD.cg (g := g) ?_ (fun j hj => e j (by omega))
    obtain ⟨h1, h2, h3, h4⟩ := hD
    exact ⟨by rw [f18_1]; exact h1, h2, h3, fun k hk => by rw [c20 k (by omega), c21 k (by omega)]; exact h4 k hk⟩
  · refine RN.cg (g := g) ?_ (fun j hj => e j (by omega))
    obtain ⟨h1, h2, h3, h4⟩ := hN
    exact ⟨by rw [f23_0]; exact h1, h2, h3, fun k hk => by rw [c24 k (by omega), c25 k (by omega), c26 k (by omega)]; exact h4 k hk⟩
  · refine RO.cg (g := g) ?_ (fun j hj => e j (by omega))
    obtain ⟨h1, h2, h3, h4⟩ := hO
    exact ⟨by rw [f23_4]; exact h1, h2, h3, fun k hk => by rw [c27 k (by omega)]; exact h4 k hk⟩
  · refine RZ.cg (g := g) ?_ (fun j hj => e j (by omega))
    obtain ⟨h1, h2, h3⟩ := hZ
    exact ⟨by rw [f0_8]; exact h1, by rw [f0_7]; exact h2, by rw [f0_7]; exact h3⟩
theorem y_aside (a c : Nat) (hac : a ≠ c) (g1 : gsz G2 a = 3510) (g2 : gsz G2 c = 3510) (N : Mem) : Res (fun r N' => r = nI 0 ∧ (∀ j, j < 3510 → N' c j = N a j) ∧ ∀ q, q ≠ c → N' q = N q) (f_X10_setAside 0 a c N) := by
  unfold f_X10_setAside
  rw [g1, g2]
  refine lo1 (fun n y N' => ∃ k, k + n = 3510 ∧ y = nI k ∧ (∀ j, j < k → N' c j = N a j) ∧ ∀ q, q ≠ c → N' q = N q) ?_ fuel 3510 _ N (by decide) ⟨0, by omega, rfl, fun j hj => absurd hj (Nat.not_lt_zero j), fun _ _ => rfl⟩
  rintro n rc _ N' ⟨k, hk, rfl, h1, h2⟩ ih
  by_cases hk2 : k = 3510
  · subst hk2
    simp (maxSteps := 1000000) (disch := omega) only [ld_i, st_i, la_i, sl_i, nI_add, pk_mul, pk_sub, ng_add, neg_neg_n, nlt, nle, neq, ng_lt, gn_lt, gg_lt, ng_le, gn_le, gg_le, ng_eq, gn_eq, gg_eq, dv_i, if_pos, if_neg, ite_tt, ite_ff, if_b2, if_b2n, l_0, l_1, l_2, l_3, l_4, l_5, l_6, l_7, l_8, l_9, l_10, l_11, l_12, l_13, l_16, l_20, l_24, l_30, l_32, l_33, l_38, l_42, l_43, l_45, l_47, l_48, l_50, l_57, l_60, l_61, l_62, l_96, l_97, l_99, l_100, l_102, l_105, l_110, l_121, l_122, l_124, l_128, l_200, l_255, l_270, l_350, l_360, l_400, l_440, l_490, l_500, l_999, l_1000, l_9999, l_10000, l_99999, l_100000, l_1000000, l_1000000001, l_1000000002, l_1000000003, l_1000000005, l_1000000011, l_1000000012, l_1000000013, l_1000000014, l_3510]
    exact Res.mk ⟨rfl, h1, h2⟩
  simp (maxSteps := 1000000) (disch := omega) only [ld_i, st_i, la_i, sl_i, nI_add, pk_mul, pk_sub, ng_add, neg_neg_n, nlt, nle, neq, ng_lt, gn_lt, gg_lt, ng_le, gn_le, gg_le, ng_eq, gn_eq, gg_eq, dv_i, if_pos, if_neg, ite_tt, ite_ff, if_b2, if_b2n, l_0, l_1, l_2, l_3, l_4, l_5, l_6, l_7, l_8, l_9, l_10, l_11, l_12, l_13, l_16, l_20, l_24, l_30, l_32, l_33, l_38, l_42, l_43, l_45, l_47, l_48, l_50, l_57, l_60, l_61, l_62, l_96, l_97, l_99, l_100, l_102, l_105, l_110, l_121, l_122, l_124, l_128, l_200, l_255, l_270, l_350, l_360, l_400, l_440, l_490, l_500, l_999, l_1000, l_9999, l_10000, l_99999, l_100000, l_1000000, l_1000000001, l_1000000002, l_1000000003, l_1000000005, l_1000000011, l_1000000012, l_1000000013, l_1000000014, l_3510]
  refine ih (n - 1) _ _ (by omega) ⟨k + 1, by omega, rfl, fun j hj => ?_, fun q hq => by rw [up_ne hq]; exact h2 q hq⟩
  by_cases hjk : j = k
  · subst hjk
    rw [up_same, h2 a hac]
  · rw [up_k _ _ _ _ _ hjk]
    exact h1 j (by omega)
set_option maxHeartbeats 8000000 in
theorem x_become_31 (M : Mem) : ∃ M', f_X6_become 31 1 M = some (0, M') ∧ AgS M 1 M' 31 ∧ ∀ q, q < 31 ∨ 61 ≤ q → M' q = M q := by
  unfold f_X6_become f_X0_become f_X8_become f_X3_become f_X2_become f_X1_become
  simp (maxSteps := 1000000) (disch := omega) only [vv_e, mm_e, jn_e, bd_e, bd_i, e1_0_0, e1_0_1, e1_0_3, e1_0_4, e1_0_6, e1_0_7, e1_1_0, e1_1_1, e1_1_2, e1_1_3, e1_1_4, e1_1_5, e1_1_9, e1_2_1, e1_2_3, e1_2_4, e1_2_5, e1_2_6, e1_2_7, e1_9_1, e1_9_2, e1_9_3, e1_9_4, e1_9_5, e1_9_6, e1_16_0, e1_16_1, e1_19_0, e1_19_2, e1_19_3, e1_19_4, e1_24_1, e1_24_2, e1_24_3, e1_24_5, e1_61_0, e1_61_6, e1_31_0, e1_31_1, e1_31_2, e1_31_3, e1_31_4, e1_31_5, e1_31_9, e1_32_1, e1_32_3, e1_32_4, e1_32_5, e1_32_6, e1_32_7, e1_39_1, e1_39_2, e1_39_3, e1_39_4, e1_39_5, e1_39_6, e1_46_0, e1_46_1, e1_49_0, e1_49_2, e1_49_3, e1_49_4, e1_54_1, e1_54_2, e1_54_3, e1_54_5, l_0, l_12, l_40, l_14, l_1344, l_6, l_72, l_36, l_20, l_16, l_8, cy_i]
  refine ⟨_, rfl, ?_, fun q hq => ?_⟩
  · unfold AgS
    simp only [Nat.reduceAdd]
    refine ⟨?_, ?_, ?_, ?_, ?_, ?_, ?_, ?_, ?_, fun j hj => ?_, fun j hj => ?_, fun j hj => ?_, fun j hj => ?_, fun j hj => ?_, fun j hj => ?_, fun j hj => ?_, fun j hj => ?_, fun j hj => ?_, fun j hj => ?_, fun j hj => ?_, fun j hj => ?_, fun j hj => ?_, fun j hj => ?_, fun j hj => ?_, fun j hj => ?_, fun j hj => ?_, fun j hj => ?_, fun j hj => ?_, fun j hj => ?_, fun j hj => ?_⟩ <;> simp (maxSteps := 1000000) (disch := omega) only [cpm_ne, cpm_at, up_ne, up_at, upd_n, upd_s, pk_cpy_in, Nat.sub_zero, Nat.zero_add]
  · simp (maxSteps := 1000000) (disch := omega) only [cpm_ne, up_ne]
set_option maxHeartbeats 8000000 in
theorem x_become_1 (M : Mem) : ∃ M', f_X6_become 1 31 M = some (0, M') ∧ AgS M 31 M' 1 ∧ ∀ q, q < 1 ∨ 31 ≤ q → M' q = M q := by
  unfold f_X6_become f_X0_become f_X8_become f_X3_become f_X2_become f_X1_become
  simp (maxSteps := 1000000) (disch := omega) only [vv_e, mm_e, jn_e, bd_e, bd_i, e1_0_0, e1_0_1, e1_0_3, e1_0_4, e1_0_6, e1_0_7, e1_1_0, e1_1_1, e1_1_2, e1_1_3, e1_1_4, e1_1_5, e1_1_9, e1_2_1, e1_2_3, e1_2_4, e1_2_5, e1_2_6, e1_2_7, e1_9_1, e1_9_2, e1_9_3, e1_9_4, e1_9_5, e1_9_6, e1_16_0, e1_16_1, e1_19_0, e1_19_2, e1_19_3, e1_19_4, e1_24_1, e1_24_2, e1_24_3, e1_24_5, e1_61_0, e1_61_6, e1_31_0, e1_31_1, e1_31_2, e1_31_3, e1_31_4, e1_31_5, e1_31_9, e1_32_1, e1_32_3, e1_32_4, e1_32_5, e1_32_6, e1_32_7, e1_39_1, e1_39_2, e1_39_3, e1_39_4, e1_39_5, e1_39_6, e1_46_0, e1_46_1, e1_49_0, e1_49_2, e1_49_3, e1_49_4, e1_54_1, e1_54_2, e1_54_3, e1_54_5, l_0, l_12, l_40, l_14, l_1344, l_6, l_72, l_36, l_20, l_16, l_8, cy_i]
  refine ⟨_, rfl, ?_, fun q hq => ?_⟩
  · unfold AgS
    simp only [Nat.reduceAdd]
    refine ⟨?_, ?_, ?_, ?_, ?_, ?_, ?_, ?_, ?_, fun j hj => ?_, fun j hj => ?_, fun j hj => ?_, fun j hj => ?_, fun j hj => ?_, fun j hj => ?_, fun j hj => ?_, fun j hj => ?_, fun j hj => ?_, fun j hj => ?_, fun j hj => ?_, fun j hj => ?_, fun j hj => ?_, fun j hj => ?_, fun j hj => ?_, fun j hj => ?_, fun j hj => ?_, fun j hj => ?_, fun j hj => ?_, fun j hj => ?_, fun j hj => ?_⟩ <;> simp (maxSteps := 1000000) (disch := omega) only [cpm_ne, cpm_at, up_ne, up_at, upd_n, upd_s, pk_cpy_in, Nat.sub_zero, Nat.zero_add]
  · simp (maxSteps := 1000000) (disch := omega) only [cpm_ne, up_ne]
theorem op_keep : ∀ (M N : Mem), Inv M N → Same (f_X9_keep 0 M) (f_X10_keep 0 N) := by
  intro M N h
  obtain ⟨nT, nF, nX, nC, nE, nL, nS, hS, hT, hF, hX, hL, hC, hR, hD, hN, hO, hZ⟩ := h.st
  obtain ⟨f1, f2, f3, f4⟩ := id hF
  obtain ⟨hS', hI, hB, hH, hP, hW⟩ := id h
  obtain ⟨M', e1, ag, hM⟩ := x_become_31 M
  obtain ⟨r, N', e2, rfl, g1, g2⟩ := y_aside 1 2 (by decide) rfl rfl (up N 0 3 (nI 1))
  unfold f_X9_keep f_X10_keep
  have m2 : M' 2 2 = nI nF := by rw [hM 2 (by omega)]; exact f1
  have n11 : N' 1 1 = nI nF := by rw [g2 1 (by decide), up_ne (by decide)]; exact f2
  simp (maxSteps := 1000000) (disch := omega) only [vv_e, mm_e, jn_e, bd_e, bd_i, e1_0_0, e1_0_1, e1_0_3, e1_0_4, e1_0_6, e1_0_7, e1_1_0, e1_1_1, e1_1_2, e1_1_3, e1_1_4, e1_1_5, e1_1_9, e1_2_1, e1_2_3, e1_2_4, e1_2_5, e1_2_6, e1_2_7, e1_9_1, e1_9_2, e1_9_3, e1_9_4, e1_9_5, e1_9_6, e1_16_0, e1_16_1, e1_19_0, e1_19_2, e1_19_3, e1_19_4, e1_24_1, e1_24_2, e1_24_3, e1_24_5, e1_61_0, e1_61_6, e2_0_0, e2_0_1, e2_0_2, e2_0_4, e2_0_5, e2_0_6, e2_0_7, e2_0_8, e2_0_9, e2_0_10, e2_0_11, e2_0_12, e2_0_24, e2_0_25, e2_0_28, e2_0_29, e2_0_30, e2_0_34, e2_0_35, e2_0_36, e2_0_38, e1, l_1, e2, ld_i, up_a, up_k, up_same, m2, n11]
  refine Same.mk ⟨?_, Or.inr ⟨?_, ?_, nT, nF, nX, nC, nE, nL, nS, ?_⟩, ?_, fun i hi => ?_, fun i hi => ?_, ?_⟩
  · rw [g2 1 (by decide), up_ne (by decide)]
    exact rs_same hS' (fun a h1 h2 => by rw [up_ne (by omega), hM a (by omega)])
  · rw [up_same]; rfl
  · rw [g2 0 (by decide), up_same]; rfl
  · refine RS.move (M := M) (b := 1) (g := N 1) hS ?_ (fun j hj => by rw [g1 j hj, up_ne (by decide)])
    unfold AgS at ag ⊢
    simp only [Nat.reduceAdd] at ag ⊢
    simp (maxSteps := 1000000) (disch := omega) only [up_ne]
    exact ag
  · rw [up_ne (by omega), up_ne (by omega), hM 61 (by omega), hM 62 (by omega), g2 0 (by decide), g2 12 (by decide), up_k _ _ _ _ _ (by decide), up_ne (by decide)]
    exact hB
  · rw [up_ne (by omega), up_ne (by omega), hM (66 + 2 * i) (by omega), hM (67 + 2 * i) (by omega), g2 4 (by decide), g2 5 (by decide), g2 6 (by decide), up_ne (by decide), up_ne (by decide), up_ne (by decide)]
    exact hH i hi
  · rw [up_ne (by omega), up_ne (by omega), up_ne (by omega), hM (75 + 3 * i) (by omega), hM (76 + 3 * i) (by omega), hM (77 + 3 * i) (by omega), g2 7 (by decide), g2 8 (by decide), g2 9 (by decide), g2 10 (by decide), g2 11 (by decide), up_ne (by decide), up_ne (by decide), up_ne (by decide), up_ne (by decide), up_ne (by decide)]
    exact hP i hi
  · rw [up_k _ _ _ _ _ (by decide), up_ne (by omega), hM 0 (by omega), hM 64 (by omega), g2 0 (by decide), g2 20 (by decide), up_k _ _ _ _ _ (by decide), up_ne (by decide)]
    exact hW
theorem op_back : ∀ (M N : Mem), Inv M N → Same (f_X9_back 0 M) (f_X10_back 0 N) := by
  intro M N h
  obtain ⟨hS', hI, hB, hH, hP, hW⟩ := id h
  unfold f_X9_back f_X10_back
  rcases hI with ⟨i1, i2⟩ | ⟨i1, i2, nT, nF, nX, nC, nE, nL, nS, hR⟩
  · simp only [vv_e, mm_e, jn_e, bd_e, bd_i, i1, i2, if_true]
    exact Same.mk h
  obtain ⟨M', e1, ag, hM⟩ := x_become_1 M
  obtain ⟨r, N', e2, rfl, g1, g2⟩ := y_aside 2 1 (by decide) rfl rfl N
  have hR' : RS nT nF nX nC nE nL nS M' 1 (N' 1) := RS.move hR ag g1
  have m2 : M' 2 2 = nI nF := hR'.2.1.1
  have n11 : N' 1 1 = nI nF := hR'.2.1.2.1
  simp only [vv_e, mm_e, jn_e, bd_e, bd_i, e1_0_0, e1_0_1, e1_0_3, e1_0_4, e1_0_6, e1_0_7, e1_1_0, e1_1_1, e1_1_2, e1_1_3, e1_1_4, e1_1_5, e1_1_9, e1_2_1, e1_2_3, e1_2_4, e1_2_5, e1_2_6, e1_2_7, e1_9_1, e1_9_2, e1_9_3, e1_9_4, e1_9_5, e1_9_6, e1_16_0, e1_16_1, e1_19_0, e1_19_2, e1_19_3, e1_19_4, e1_24_1, e1_24_2, e1_24_3, e1_24_5, e1_61_0, e1_61_6, e2_0_0, e2_0_1, e2_0_2, e2_0_4, e2_0_5, e2_0_6, e2_0_7, e2_0_8, e2_0_9, e2_0_10, e2_0_11, e2_0_12, e2_0_24, e2_0_25, e2_0_28, e2_0_29, e2_0_30, e2_0_34, e2_0_35, e2_0_36, e2_0_38, i1, i2, e1, e2, m2, ld_1, n11, show ¬ (1 : Int32) = 0 by decide, if_false]
  refine Same.mk ⟨⟨nT, nF, nX, nC, nE, nL, nS, hR'⟩, Or.inr ⟨?_, ?_, nT, nF, nX, nC, nE, nL, nS, ?_⟩, ?_, fun i hi => ?_, fun i hi => ?_, ?_⟩
  · rw [hM 0 (by omega)]; exact i1
  · rw [g2 0 (by decide)]; exact i2
  · rw [g2 2 (by decide)]
    refine RS.move hR ?_ (fun j hj => rfl)
    unfold AgS
    simp only [Nat.reduceAdd]
    refine ⟨?_, ?_, ?_, ?_, ?_, ?_, ?_, ?_, ?_, fun j hj => ?_, fun j hj => ?_, fun j hj => ?_, fun j hj => ?_, fun j hj => ?_, fun j hj => ?_, fun j hj => ?_, fun j hj => ?_, fun j hj => ?_, fun j hj => ?_, fun j hj => ?_, fun j hj => ?_, fun j hj => ?_, fun j hj => ?_, fun j hj => ?_, fun j hj => ?_, fun j hj => ?_, fun j hj => ?_, fun j hj => ?_, fun j hj => ?_, fun j hj => ?_⟩ <;> rw [hM _ (by omega)]
  · rw [hM 61 (by omega), hM 62 (by omega), g2 0 (by decide), g2 12 (by decide)]
    exact hB
  · rw [hM (66 + 2 * i) (by omega), hM (67 + 2 * i) (by omega), g2 4 (by decide), g2 5 (by decide), g2 6 (by decide)]
    exact hH i hi
  · rw [hM (75 + 3 * i) (by omega), hM (76 + 3 * i) (by omega), hM (77 + 3 * i) (by omega), g2 7 (by decide), g2 8 (by decide), g2 9 (by decide), g2 10 (by decide), g2 11 (by decide)]
    exact hP i hi
  · rw [hM 0 (by omega), hM 64 (by omega), g2 0 (by decide), g2 20 (by decide)]
    exact hW
