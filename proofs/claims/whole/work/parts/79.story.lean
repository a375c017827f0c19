set_option maxHeartbeats 4000000 in
theorem op_story : ∀ (p q : Int32) (M N : Mem), Inv M N → Same (f_X9_story 0 p q M) (f_X10_story 0 p q N) := by
  intro p q M N h
  obtain ⟨nT, nF, nX, nC, nE, nL, nS, hS, hT, hF, hX, hL, hC, hR, hD, hN, hO, hZ⟩ := h.st
  have f3 : nF ≤ 40 := hF.2.2.1
  obtain ⟨c1, c2, c3, c4⟩ := id hC
  unfold f_X9_story f_X10_story
  rw [s_within, bd_e, if_b2, s_isInL p 0 6 0 6 N rfl rfl, bd_e, if_b2]
  by_cases hp : 0 ≤ p ∧ p ≤ 6
  case neg =>
    rw [if_neg hp, if_neg hp]
    exact Same.mk h
  rw [if_pos hp, if_pos hp]
  obtain ⟨u, hu, rfl⟩ := rgN (c := 6) (by decide) hp
  repeat rw [vv_e]
  rw [e1_0_0, e2_0_0, ld_3, c1, c2, show 1 + nI nC = nI (1 + nC) from nI_add 1 nC, s_within, bd_e, if_b2, s_isInL q 0 (Int32.toInt64 (nI (1 + nC))) 0 (nI (1 + nC)) N rfl rfl, bd_e, if_b2]
  by_cases hq : 0 ≤ q ∧ q ≤ nI (1 + nC)
  case neg =>
    rw [if_neg hq, if_neg hq]
    exact Same.mk h
  rw [if_pos hq, if_pos hq]
  obtain ⟨wh, hwh, rfl⟩ := rgN (by omega) hq
  -- the chosen figures, their pairs, which kinds fit
  have hch : ∀ k, ∃ z : Nat × Nat, k < nC → z.1 < nF ∧ z.2 < 1000 ∧ M 29 k = nI z.1 ∧ N 1 (350 + k) = nI z.1 ∧ M 7 z.1 = nI z.2 ∧ N 1 (30 + 6 * z.1 + 3) = nI z.2 := fun k => by
    by_cases hk : k < nC
    · obtain ⟨e1, f, hf, e2⟩ := c4 k hk
      obtain ⟨t, kk, v, pp, q1, q2, q3, q4, q5, a1, a2, a3, a4, d1, d2, d3, d4, d5, d6⟩ := hF.fig hf
      exact ⟨(f, pp), fun _ => ⟨hf, q5, e2, by rw [e1]; exact e2, a4, d4⟩⟩
    · exact ⟨(0, 0), fun w => absurd w hk⟩
  obtain ⟨Z, hZ'⟩ := Classical.axiomOfChoice hch
  have hft : ∀ k, ∃ g : Nat → Bool, k < nC → ∀ j, j < 8 → (∀ M', Ec M M' → OkC M' (if g j = true then nI 1 else nI 0) (f_X6_fits 1 (nI (Z k).1) (nI j) M')) ∧ ∀ N', Em N N' → OkM N' (if g j = true then nI 1 else nI 0) (f_X10_fits 0 (nI (Z k).1) (nI j) N') := fun k => by
    by_cases hk : k < nC
    · have hj : ∀ j, ∃ y : Bool, j < 8 → (∀ M', Ec M M' → OkC M' (if y = true then nI 1 else nI 0) (f_X6_fits 1 (nI (Z k).1) (nI j) M')) ∧ ∀ N', Em N N' → OkM N' (if y = true then nI 1 else nI 0) (f_X10_fits 0 (nI (Z k).1) (nI j) N') := fun j => by
        by_cases hj8 : j < 8
        · obtain ⟨v, hv, a, b⟩ := fits_det (Or.inl rfl) hS (hZ' k hk).1 hj8
          rcases hv with rfl | rfl
          · exact ⟨false, fun _ => ⟨a, b⟩⟩
          · exact ⟨true, fun _ => ⟨a, b⟩⟩
        · exact ⟨false, fun w => absurd w hj8⟩
      obtain ⟨g, hg⟩ := Classical.axiomOfChoice hj
      exact ⟨g, fun _ j hj8 => hg j hj8⟩
    · exact ⟨fun _ => false, fun w => absurd w hk⟩
  obtain ⟨ft, hft⟩ := Classical.axiomOfChoice hft
  have h6 : ∀ k, k < nC → ft k 6 = true := fun k hk => by
    have a := x_fits6 (Or.inl rfl) hS (hZ' k hk).1
    have b := (hft k hk 6 (by decide)).1 M Ec.rfl'
    have e := a.inj b
    cases hb : ft k 6 with
    | true => rfl
    | false => rw [hb] at e; exact absurd e (by decide)
  obtain ⟨C, C1, C2, C3⟩ : ∃ C : Nat → Nat → Option Nat, (∀ k j, k < nC → ft k j = true → C k j = some (prN j (Z k).2)) ∧ (∀ k j, k < nC → ¬ ft k j = true → C k j = none) ∧ ∀ k j q', C k j = some q' → q' ≤ 30 := by
    refine ⟨fun k j => if k < nC ∧ ft k j = true then some (prN j (Z k).2) else none, fun k j hk hj => if_pos ⟨hk, hj⟩, fun k j hk hj => if_neg (fun w => hj w.2), fun k j q' he => ?_⟩
    dsimp only at he
    by_cases hj : k < nC ∧ ft k j = true
    · rw [if_pos hj] at he
      cases he
      have := prN_b j (Z k).2 (hZ' k hj.1).2.1
      omega
    · rw [if_neg hj] at he; cases he
  obtain ⟨B, hB⟩ : ∃ B : Nat → Nat, ∀ k, B k = cbN (ft k) (Z k).2 7 := ⟨fun k => cbN (ft k) (Z k).2 7, fun _ => rfl⟩
  have hok := fun k (hk : k < nC) => cbN_ok (p := (Z k).2) (h6 k hk) 7 (Nat.le_refl _)
  have hCh : Cheap C B nC := by
    intro k hk
    obtain ⟨i1, i2, i3, i4⟩ := hok k hk
    rw [hB k]
    refine ⟨i1, i2, prN (cbN (ft k) (Z k).2 7) (Z k).2, C1 k _ hk i3, fun j q' h1 h2 hq' => ?_⟩
    by_cases hj : ft k j = true
    · rw [C1 k j hk hj] at hq'
      cases hq'
      refine ⟨i4 j (by omega) h2 hj, ?_⟩
      unfold ukN
      by_cases w : 6 ≤ j
      · rw [if_pos w]; split <;> omega
      · rw [if_neg w]
        by_cases w2 : 6 ≤ cbN (ft k) (Z k).2 7
        · have y1 := prN_hi (cbN (ft k) (Z k).2 7) (Z k).2 w2 i2
          have y2 := prN_lo j (Z k).2 h1 (by omega)
          have y3 := i4 j (by omega) h2 hj
          omega
        · rw [if_neg w2]; exact Nat.le_refl _
    · rw [C2 k j hk hj] at hq'; cases hq'
  have hmP := mP_le (b := B) (n := nC) C3 nC
  have hmU := mU_le (b := B) (n := nC) nC
  -- the class
  have X : OkC M (if u < mU B nC nC then -nI 1000000005 else if wh = 0 then nI (mP C B nC nC) else if wh = 1 then nI (mU B nC nC) else nI (B (wh - 2))) (it3 (fun rc8 (v5 : Int32) (v6 : Int32) (v7 : Int32) M => vv (grf G1 0 0) fun x9 => vv (M x9 6) fun x10 => if v7 < x10 then vv (grf G1 0 0) fun x16 => vv (grf G1 0 0) fun x17 => vv (grf G1 x17 5) fun x18 => ld M x18 v7 6 fun x19 => bd (f_X6_cheapestKind x16 x19 M) fun x20 M => vv (grf G1 0 0) fun x21 => vv (grf G1 x21 0) fun x22 => vv (grf G1 x22 6) fun x23 => vv (grf G1 0 0) fun x24 => vv (grf G1 x24 5) fun x25 => ld M x25 v7 6 fun x26 => ld M x23 x26 40 fun x27 => bd (f_X9_price x20 x27 M) fun x28 M => vv (v5 + x28) fun x29 => bd (f_X9_isUnkind x20 M) fun x30 M => if x30 = 0 then rc8 x29 v6 (v7 + 1) M else rc8 x29 (v6 + 1) (v7 + 1) M else if nI u < v6 then some ((-1000000005), M) else if nI wh = 0 then some (v5, M) else if nI wh = 1 then some (v6, M) else vv (grf G1 0 0) fun x11 => vv (grf G1 0 0) fun x12 => vv (grf G1 x12 5) fun x13 => ld M x13 (nI wh - 2) 6 fun x14 => bd (f_X6_cheapestKind x11 x14 M) fun x15 M => some (x15, M)) fuel 0 0 0 M) := by
    show Res _ _
    refine lo3 (fun n v5 v6 v7 M' => ∃ k A D, k + n = nC ∧ v5 = nI A ∧ v6 = nI D ∧ v7 = nI k ∧ A + mP C B nC (nC - k) = mP C B nC nC ∧ D + mU B nC (nC - k) = mU B nC nC ∧ Ec M M') ?_ fuel nC _ _ _ M (by show nC < 5000; omega) ⟨0, 0, 0, by omega, rfl, rfl, rfl, by rw [Nat.zero_add, Nat.sub_zero], by rw [Nat.zero_add, Nat.sub_zero], Ec.rfl'⟩
    rintro n rc _ _ _ M' ⟨k, A, D, hk, rfl, rfl, rfl, hA, hDD, E⟩ ih
    have m16 : M' 1 6 = nI nC := by rw [E 1 (by decide) (by decide) (by decide) (by decide) (by decide) (by decide)]; exact c1
    have m29 : M' 29 = M 29 := E 29 (by decide) (by decide) (by decide) (by decide) (by decide) (by decide)
    by_cases hkn : k = nC
    · subst hkn
      rw [Nat.sub_self] at hA hDD
      have hA' : A = mP C B k k := hA
      have hD' : D = mU B k k := hDD
      rw [← hA', ← hD']
      by_cases h1 : u < D
      · simp (maxSteps := 1000000) (disch := omega) only [vv_e, mm_e, jn_e, bd_e, bd_i, e1_0_0, e1_0_1, e1_0_3, e1_0_4, e1_0_6, e1_0_7, e1_1_0, e1_1_1, e1_1_2, e1_1_3, e1_1_4, e1_1_5, e1_1_9, e1_2_1, e1_2_3, e1_2_4, e1_2_5, e1_2_6, e1_2_7, e1_9_1, e1_9_2, e1_9_3, e1_9_4, e1_9_5, e1_9_6, e1_16_0, e1_16_1, e1_19_0, e1_19_2, e1_19_3, e1_19_4, e1_24_1, e1_24_2, e1_24_3, e1_24_5, e1_61_0, e1_61_6, ld_i, st_i, la_i, sl_i, nI_add, pk_mul, pk_sub, ng_add, neg_neg_n, nlt, nle, neq, ng_lt, gn_lt, gg_lt, ng_le, gn_le, gg_le, ng_eq, gn_eq, gg_eq, dv_i, if_pos, if_neg, ite_tt, ite_ff, if_b2, if_b2n, l_0, l_1, l_2, l_3, l_4, l_5, l_6, l_7, l_8, l_9, l_10, l_11, l_12, l_13, l_16, l_20, l_24, l_30, l_32, l_33, l_38, l_42, l_43, l_45, l_47, l_48, l_50, l_57, l_60, l_61, l_62, l_96, l_97, l_99, l_100, l_102, l_105, l_110, l_121, l_122, l_124, l_128, l_200, l_255, l_270, l_350, l_360, l_400, l_440, l_490, l_500, l_999, l_1000, l_9999, l_10000, l_99999, l_100000, l_1000000, l_1000000001, l_1000000002, l_1000000003, l_1000000005, l_1000000011, l_1000000012, l_1000000013, l_1000000014, m16]
        exact Res.mk ⟨rfl, E⟩
      · by_cases h2 : wh = 0
        · simp (maxSteps := 1000000) (disch := omega) only [vv_e, mm_e, jn_e, bd_e, bd_i, e1_0_0, e1_0_1, e1_0_3, e1_0_4, e1_0_6, e1_0_7, e1_1_0, e1_1_1, e1_1_2, e1_1_3, e1_1_4, e1_1_5, e1_1_9, e1_2_1, e1_2_3, e1_2_4, e1_2_5, e1_2_6, e1_2_7, e1_9_1, e1_9_2, e1_9_3, e1_9_4, e1_9_5, e1_9_6, e1_16_0, e1_16_1, e1_19_0, e1_19_2, e1_19_3, e1_19_4, e1_24_1, e1_24_2, e1_24_3, e1_24_5, e1_61_0, e1_61_6, ld_i, st_i, la_i, sl_i, nI_add, pk_mul, pk_sub, ng_add, neg_neg_n, nlt, nle, neq, ng_lt, gn_lt, gg_lt, ng_le, gn_le, gg_le, ng_eq, gn_eq, gg_eq, dv_i, if_pos, if_neg, ite_tt, ite_ff, if_b2, if_b2n, l_0, l_1, l_2, l_3, l_4, l_5, l_6, l_7, l_8, l_9, l_10, l_11, l_12, l_13, l_16, l_20, l_24, l_30, l_32, l_33, l_38, l_42, l_43, l_45, l_47, l_48, l_50, l_57, l_60, l_61, l_62, l_96, l_97, l_99, l_100, l_102, l_105, l_110, l_121, l_122, l_124, l_128, l_200, l_255, l_270, l_350, l_360, l_400, l_440, l_490, l_500, l_999, l_1000, l_9999, l_10000, l_99999, l_100000, l_1000000, l_1000000001, l_1000000002, l_1000000003, l_1000000005, l_1000000011, l_1000000012, l_1000000013, l_1000000014, m16]
          exact Res.mk ⟨rfl, E⟩
        · by_cases h3 : wh = 1
          · simp (maxSteps := 1000000) (disch := omega) only [vv_e, mm_e, jn_e, bd_e, bd_i, e1_0_0, e1_0_1, e1_0_3, e1_0_4, e1_0_6, e1_0_7, e1_1_0, e1_1_1, e1_1_2, e1_1_3, e1_1_4, e1_1_5, e1_1_9, e1_2_1, e1_2_3, e1_2_4, e1_2_5, e1_2_6, e1_2_7, e1_9_1, e1_9_2, e1_9_3, e1_9_4, e1_9_5, e1_9_6, e1_16_0, e1_16_1, e1_19_0, e1_19_2, e1_19_3, e1_19_4, e1_24_1, e1_24_2, e1_24_3, e1_24_5, e1_61_0, e1_61_6, ld_i, st_i, la_i, sl_i, nI_add, pk_mul, pk_sub, ng_add, neg_neg_n, nlt, nle, neq, ng_lt, gn_lt, gg_lt, ng_le, gn_le, gg_le, ng_eq, gn_eq, gg_eq, dv_i, if_pos, if_neg, ite_tt, ite_ff, if_b2, if_b2n, l_0, l_1, l_2, l_3, l_4, l_5, l_6, l_7, l_8, l_9, l_10, l_11, l_12, l_13, l_16, l_20, l_24, l_30, l_32, l_33, l_38, l_42, l_43, l_45, l_47, l_48, l_50, l_57, l_60, l_61, l_62, l_96, l_97, l_99, l_100, l_102, l_105, l_110, l_121, l_122, l_124, l_128, l_200, l_255, l_270, l_350, l_360, l_400, l_440, l_490, l_500, l_999, l_1000, l_9999, l_10000, l_99999, l_100000, l_1000000, l_1000000001, l_1000000002, l_1000000003, l_1000000005, l_1000000011, l_1000000012, l_1000000013, l_1000000014, m16]
            exact Res.mk ⟨rfl, E⟩
          · obtain ⟨z1, z2, z3, z4, z5, z6⟩ := hZ' (wh - 2) (by omega)
            have m29' : M' 29 (wh - 2) = nI (Z (wh - 2)).1 := by rw [m29]; exact z3
            have xc := x_cheap hS z1 z5 z2 (fun j hj => (hft (wh - 2) (by omega) j hj).1) (h6 (wh - 2) (by omega)) M' E
            rw [← hB (wh - 2)] at xc
            simp (maxSteps := 1000000) (disch := omega) only [vv_e, mm_e, jn_e, bd_e, bd_i, e1_0_0, e1_0_1, e1_0_3, e1_0_4, e1_0_6, e1_0_7, e1_1_0, e1_1_1, e1_1_2, e1_1_3, e1_1_4, e1_1_5, e1_1_9, e1_2_1, e1_2_3, e1_2_4, e1_2_5, e1_2_6, e1_2_7, e1_9_1, e1_9_2, e1_9_3, e1_9_4, e1_9_5, e1_9_6, e1_16_0, e1_16_1, e1_19_0, e1_19_2, e1_19_3, e1_19_4, e1_24_1, e1_24_2, e1_24_3, e1_24_5, e1_61_0, e1_61_6, ld_i, st_i, la_i, sl_i, nI_add, pk_mul, pk_sub, ng_add, neg_neg_n, nlt, nle, neq, ng_lt, gn_lt, gg_lt, ng_le, gn_le, gg_le, ng_eq, gn_eq, gg_eq, dv_i, if_pos, if_neg, ite_tt, ite_ff, if_b2, if_b2n, l_0, l_1, l_2, l_3, l_4, l_5, l_6, l_7, l_8, l_9, l_10, l_11, l_12, l_13, l_16, l_20, l_24, l_30, l_32, l_33, l_38, l_42, l_43, l_45, l_47, l_48, l_50, l_57, l_60, l_61, l_62, l_96, l_97, l_99, l_100, l_102, l_105, l_110, l_121, l_122, l_124, l_128, l_200, l_255, l_270, l_350, l_360, l_400, l_440, l_490, l_500, l_999, l_1000, l_9999, l_10000, l_99999, l_100000, l_1000000, l_1000000001, l_1000000002, l_1000000003, l_1000000005, l_1000000011, l_1000000012, l_1000000013, l_1000000014, m16, m29']
            exact OkC.then xc (fun M2 E2 => Res.mk ⟨rfl, E.trans E2⟩)
    · obtain ⟨z1, z2, z3, z4, z5, z6⟩ := hZ' k (by omega)
      have m29' : M' 29 k = nI (Z k).1 := by rw [m29]; exact z3
      have xc := x_cheap hS z1 z5 z2 (fun j hj => (hft k (by omega) j hj).1) (h6 k (by omega)) M' E
      rw [← hB k] at xc
      obtain ⟨i1, i2, i3, i4⟩ := hok k (by omega)
      rw [← hB k] at i1 i2 i3
      have eP : mP C B nC (nC - k) = prN (B k) (Z k).2 + mP C B nC (nC - (k + 1)) := by
        rw [show nC - k = (nC - (k + 1)) + 1 by omega, mP, show nC - (nC - (k + 1) + 1) = k by omega, C1 k _ (by omega) i3]
        rfl
      have eU : mU B nC (nC - k) = ukN (B k) + mU B nC (nC - (k + 1)) := by
        rw [show nC - k = (nC - (k + 1)) + 1 by omega, mU, show nC - (nC - (k + 1) + 1) = k by omega]
      obtain ⟨M2, e2, E2⟩ := xc.v
      have m7 : M2 7 (Z k).1 = nI (Z k).2 := by rw [E2 7 (by decide) (by decide) (by decide) (by decide) (by decide) (by decide), E 7 (by decide) (by decide) (by decide) (by decide) (by decide) (by decide)]; exact z5
      have m292 : M2 29 k = nI (Z k).1 := by rw [E2 29 (by decide) (by decide) (by decide) (by decide) (by decide) (by decide)]; exact m29'
      by_cases h6' : 6 ≤ B k
      · have e3 := unk_n (B k) (by omega) M2
        rw [if_pos h6'] at e3
        have euk : ukN (B k) = 1 := if_pos h6'
        simp (maxSteps := 1000000) (disch := omega) only [vv_e, mm_e, jn_e, bd_e, bd_i, e1_0_0, e1_0_1, e1_0_3, e1_0_4, e1_0_6, e1_0_7, e1_1_0, e1_1_1, e1_1_2, e1_1_3, e1_1_4, e1_1_5, e1_1_9, e1_2_1, e1_2_3, e1_2_4, e1_2_5, e1_2_6, e1_2_7, e1_9_1, e1_9_2, e1_9_3, e1_9_4, e1_9_5, e1_9_6, e1_16_0, e1_16_1, e1_19_0, e1_19_2, e1_19_3, e1_19_4, e1_24_1, e1_24_2, e1_24_3, e1_24_5, e1_61_0, e1_61_6, ld_i, st_i, la_i, sl_i, nI_add, pk_mul, pk_sub, ng_add, neg_neg_n, nlt, nle, neq, ng_lt, gn_lt, gg_lt, ng_le, gn_le, gg_le, ng_eq, gn_eq, gg_eq, dv_i, if_pos, if_neg, ite_tt, ite_ff, if_b2, if_b2n, l_0, l_1, l_2, l_3, l_4, l_5, l_6, l_7, l_8, l_9, l_10, l_11, l_12, l_13, l_16, l_20, l_24, l_30, l_32, l_33, l_38, l_42, l_43, l_45, l_47, l_48, l_50, l_57, l_60, l_61, l_62, l_96, l_97, l_99, l_100, l_102, l_105, l_110, l_121, l_122, l_124, l_128, l_200, l_255, l_270, l_350, l_360, l_400, l_440, l_490, l_500, l_999, l_1000, l_9999, l_10000, l_99999, l_100000, l_1000000, l_1000000001, l_1000000002, l_1000000003, l_1000000005, l_1000000011, l_1000000012, l_1000000013, l_1000000014, m16, m29', e2, m292, m7, x_prN, e3]
        exact ih (n - 1) _ _ _ _ (by omega) ⟨k + 1, _, _, by omega, rfl, rfl, rfl, by omega, by omega, E.trans E2⟩
      · have e3 := unk_n (B k) (by omega) M2
        rw [if_neg h6'] at e3
        have euk : ukN (B k) = 0 := if_neg h6'
        simp (maxSteps := 1000000) (disch := omega) only [vv_e, mm_e, jn_e, bd_e, bd_i, e1_0_0, e1_0_1, e1_0_3, e1_0_4, e1_0_6, e1_0_7, e1_1_0, e1_1_1, e1_1_2, e1_1_3, e1_1_4, e1_1_5, e1_1_9, e1_2_1, e1_2_3, e1_2_4, e1_2_5, e1_2_6, e1_2_7, e1_9_1, e1_9_2, e1_9_3, e1_9_4, e1_9_5, e1_9_6, e1_16_0, e1_16_1, e1_19_0, e1_19_2, e1_19_3, e1_19_4, e1_24_1, e1_24_2, e1_24_3, e1_24_5, e1_61_0, e1_61_6, ld_i, st_i, la_i, sl_i, nI_add, pk_mul, pk_sub, ng_add, neg_neg_n, nlt, nle, neq, ng_lt, gn_lt, gg_lt, ng_le, gn_le, gg_le, ng_eq, gn_eq, gg_eq, dv_i, if_pos, if_neg, ite_tt, ite_ff, if_b2, if_b2n, l_0, l_1, l_2, l_3, l_4, l_5, l_6, l_7, l_8, l_9, l_10, l_11, l_12, l_13, l_16, l_20, l_24, l_30, l_32, l_33, l_38, l_42, l_43, l_45, l_47, l_48, l_50, l_57, l_60, l_61, l_62, l_96, l_97, l_99, l_100, l_102, l_105, l_110, l_121, l_122, l_124, l_128, l_200, l_255, l_270, l_350, l_360, l_400, l_440, l_490, l_500, l_999, l_1000, l_9999, l_10000, l_99999, l_100000, l_1000000, l_1000000001, l_1000000002, l_1000000003, l_1000000005, l_1000000011, l_1000000012, l_1000000013, l_1000000014, m16, m29', e2, m292, m7, x_prN, e3]
        exact ih (n - 1) _ _ _ _ (by omega) ⟨k + 1, _, _, by omega, rfl, rfl, rfl, by omega, by omega, E.trans E2⟩
  refine Same.ov h X ?_
  show Res _ _
  refine lo1 (fun n y N' => ∃ k, k + n = nC ∧ y = nI k ∧ Em N N' ∧ ∀ k' j, k' < k → 1 ≤ j → j ≤ 7 → N' 15 (8 * k' + j) = cI (C k' j)) ?_ fuel nC _ N (by show nC < 5000; omega) ⟨0, by omega, rfl, Em.rfl', fun k' j hk' => absurd hk' (Nat.not_lt_zero k')⟩
  rintro n rc _ N' ⟨k, hk, rfl, E, hc'⟩ ih
  have hN1 : N' 1 = N 1 := E.1 1 (by omega)
  rw [vv_e, ld_3, hN1, c2]
  by_cases hkn : k = nC
  case neg =>
    obtain ⟨z1, z2, z3, z4, z5, z6⟩ := hZ' k (by omega)
    rw [if_pos (nI_lt (show k < nC by omega) (by omega)), vv_e, show 350 + nI k = nI (350 + k) from nI_add 350 k, ld_i (by omega) (by decide), hN1, z4]
    refine lo1 (fun m y N2 => ∃ j, j + m = 8 ∧ 1 ≤ j ∧ y = nI j ∧ Em N N2 ∧ (∀ k' j, k' < k → 1 ≤ j → j ≤ 7 → N2 15 (8 * k' + j) = cI (C k' j)) ∧ ∀ j', 1 ≤ j' → j' < j → N2 15 (8 * k + j') = cI (C k j')) ?_ fuel 7 _ N' (by decide) ⟨1, by omega, by omega, rfl, E, hc', fun j' h1 h2 => by omega⟩
    rintro m rc2 _ N2 ⟨j, hj, hj1, rfl, E2, g1, g2⟩ ih2
    by_cases hj8 : j = 8
    · subst hj8
      rw [if_pos (show (7 : Int32) < nI 8 by decide), nI_1]
      refine ih (n - 1) _ _ (by omega) ⟨k + 1, by omega, rfl, E2, fun k' j' h1 h2 h3 => ?_⟩
      by_cases e : k' = k
      · subst e; exact g2 j' h2 (by omega)
      · exact g1 k' j' (by omega) h2 h3
    have h7 : ¬ (7 : Int32) < nI j := nI_nlt (a := 7) (b := j) (by omega) (by omega)
    rw [if_neg h7, vv_e, e2_0_28]
    obtain ⟨N3, e3, E3⟩ := ((hft k (by omega) j (by omega)).2 N2 E2).v
    have E23 := E2.trans E3
    have k15 : N3 15 = N2 15 := y_fits15 e3
    have fin : ∀ v, v = cI (C k j) → Res (fun r N' => r = (if u < mU B nC nC then -nI 1000000005 else if wh = 0 then nI (mP C B nC nC) else if wh = 1 then nI (mU B nC nC) else nI (B (wh - 2))) ∧ Em N N') (rc2 (nI (j + 1)) (up N3 15 (8 * k + j) v)) := fun v hv => by
      refine ih2 (m - 1) _ _ (by omega) ⟨j + 1, by omega, by omega, rfl, E23.u (by omega), fun k' j' h1 h2 h3 => ?_, fun j' h1 h2 => ?_⟩
      · rw [up_k _ _ _ _ _ (by omega), k15]; exact g1 k' j' h1 h2 h3
      · by_cases e : j' = j
        · subst e; rw [up_same]; exact hv
        · rw [up_k _ _ _ _ _ (by omega), k15]; exact g2 j' h1 (by omega)
    have n31 : N3 1 = N 1 := E23.1 1 (by omega)
    by_cases hfj : ft k j = true
    · rw [if_pos hfj] at e3
      have z6' : N3 1 (30 + 6 * (Z k).1 + 3) = nI (Z k).2 := by rw [n31]; exact z6
      unfold f_X10_figureAt
      simp (maxSteps := 1000000) (disch := omega) only [vv_e, mm_e, jn_e, bd_e, bd_i, e2_0_0, e2_0_1, e2_0_2, e2_0_4, e2_0_5, e2_0_6, e2_0_7, e2_0_8, e2_0_9, e2_0_10, e2_0_11, e2_0_12, e2_0_24, e2_0_25, e2_0_28, e2_0_29, e2_0_30, e2_0_34, e2_0_35, e2_0_36, e2_0_38, ld_i, st_i, la_i, sl_i, nI_add, pk_mul, pk_sub, ng_add, neg_neg_n, nlt, nle, neq, ng_lt, gn_lt, gg_lt, ng_le, gn_le, gg_le, ng_eq, gn_eq, gg_eq, dv_i, if_pos, if_neg, ite_tt, ite_ff, if_b2, if_b2n, l_0, l_1, l_2, l_3, l_4, l_5, l_6, l_7, l_8, l_9, l_10, l_11, l_12, l_13, l_16, l_20, l_24, l_30, l_32, l_33, l_38, l_42, l_43, l_45, l_47, l_48, l_50, l_57, l_60, l_61, l_62, l_96, l_97, l_99, l_100, l_102, l_105, l_110, l_121, l_122, l_124, l_128, l_200, l_255, l_270, l_350, l_360, l_400, l_440, l_490, l_500, l_999, l_1000, l_9999, l_10000, l_99999, l_100000, l_1000000, l_1000000001, l_1000000002, l_1000000003, l_1000000005, l_1000000011, l_1000000012, l_1000000013, l_1000000014, e3, z6', y_prN]
      exact fin _ (by rw [C1 k j (by omega) hfj]; rfl)
    · rw [if_neg hfj] at e3
      simp (maxSteps := 1000000) (disch := omega) only [vv_e, mm_e, jn_e, bd_e, bd_i, e2_0_0, e2_0_1, e2_0_2, e2_0_4, e2_0_5, e2_0_6, e2_0_7, e2_0_8, e2_0_9, e2_0_10, e2_0_11, e2_0_12, e2_0_24, e2_0_25, e2_0_28, e2_0_29, e2_0_30, e2_0_34, e2_0_35, e2_0_36, e2_0_38, ld_i, st_i, la_i, sl_i, nI_add, pk_mul, pk_sub, ng_add, neg_neg_n, nlt, nle, neq, ng_lt, gn_lt, gg_lt, ng_le, gn_le, gg_le, ng_eq, gn_eq, gg_eq, dv_i, if_pos, if_neg, ite_tt, ite_ff, if_b2, if_b2n, l_0, l_1, l_2, l_3, l_4, l_5, l_6, l_7, l_8, l_9, l_10, l_11, l_12, l_13, l_16, l_20, l_24, l_30, l_32, l_33, l_38, l_42, l_43, l_45, l_47, l_48, l_50, l_57, l_60, l_61, l_62, l_96, l_97, l_99, l_100, l_102, l_105, l_110, l_121, l_122, l_124, l_128, l_200, l_255, l_270, l_350, l_360, l_400, l_440, l_490, l_500, l_999, l_1000, l_9999, l_10000, l_99999, l_100000, l_1000000, l_1000000001, l_1000000002, l_1000000003, l_1000000005, l_1000000011, l_1000000012, l_1000000013, l_1000000014, e3]
      exact fin _ (by rw [C2 k j (by omega) hfj]; rfl)
  subst hkn
  rw [if_neg (nI_nlt (Nat.le_refl _) (by omega)), mm_e, mm_e, mm_e]
  have hz0 : N' 0 = N' 0 := rfl
  have tr := tries_ok (c := C) (b := B) (n := k) (u := u) (N := up (up (up N' 0 31 (-1)) 0 32 0) 0 33 (nI u)) c3 hu C3 hCh (by rw [up_ne (by decide), up_ne (by decide), up_ne (by decide), hN1]; exact c2) (up_same _ _ _ _) (fun k' j h1 h2 h3 => by rw [up_ne (by decide), up_ne (by decide), up_ne (by decide)]; exact hc' k' j h1 h2 h3) 10 0 0 0 none (fun _ => 0) (up (up (up N' 0 31 (-1)) 0 32 0) 0 33 (nI u)) (by omega) (by omega) (by omega) (by omega) ⟨fun _ _ _ => rfl, fun _ _ _ _ => rfl⟩ (by show up (up (up N' 0 31 (-1)) 0 32 0) 0 33 (nI u) 0 31 = -nI 1; rw [up_k _ _ _ _ _ (by decide), up_k _ _ _ _ _ (by decide), up_same]; rfl) (fun i hi => absurd hi (Nat.not_lt_zero i))
  obtain ⟨r0, N2, e0, F1, -, F3⟩ := tr
  rw [Nat.sub_zero, Nat.zero_add, Nat.zero_add] at F3
  have e0' : f_X10_tries 0 0 0 0 (up (up (up N' 0 31 (-1)) 0 32 0) 0 33 (nI u)) = some (r0, N2) := e0
  rw [e0', bd_e, vv_e]
  have E2 : Em N N2 := by
    refine E.trans ⟨fun a ha => ?_, ?_, ?_, ?_⟩
    · rw [F1.2 a (by omega) (by omega) (by omega), up_ne (by omega), up_ne (by omega), up_ne (by omega)]
    · rw [F1.1 3 (by decide) (by decide), up_k _ _ _ _ _ (by decide), up_k _ _ _ _ _ (by decide), up_k _ _ _ _ _ (by decide)]
    · rw [F1.1 13 (by decide) (by decide), up_k _ _ _ _ _ (by decide), up_k _ _ _ _ _ (by decide), up_k _ _ _ _ _ (by decide)]
    · rw [F1.1 37 (by decide) (by decide), up_k _ _ _ _ _ (by decide), up_k _ _ _ _ _ (by decide), up_k _ _ _ _ _ (by decide)]
  by_cases hfe : mU B k k ≤ u
  · rw [if_pos hfe] at F3
    obtain ⟨a1, a2, a3, a4, a5⟩ := F3
    have a3' : N2 0 31 = nI (mP C B k k) := a3
    have a4' : N2 0 32 = nI (mU B k k) := a4
    rw [if_neg (show ¬ u < mU B k k by omega)]
    by_cases h2 : wh = 0
    · simp (maxSteps := 1000000) (disch := omega) only [vv_e, mm_e, jn_e, bd_e, bd_i, e2_0_0, e2_0_1, e2_0_2, e2_0_4, e2_0_5, e2_0_6, e2_0_7, e2_0_8, e2_0_9, e2_0_10, e2_0_11, e2_0_12, e2_0_24, e2_0_25, e2_0_28, e2_0_29, e2_0_30, e2_0_34, e2_0_35, e2_0_36, e2_0_38, ld_i, st_i, la_i, sl_i, nI_add, pk_mul, pk_sub, ng_add, neg_neg_n, nlt, nle, neq, ng_lt, gn_lt, gg_lt, ng_le, gn_le, gg_le, ng_eq, gn_eq, gg_eq, dv_i, if_pos, if_neg, ite_tt, ite_ff, if_b2, if_b2n, l_0, l_1, l_2, l_3, l_4, l_5, l_6, l_7, l_8, l_9, l_10, l_11, l_12, l_13, l_16, l_20, l_24, l_30, l_32, l_33, l_38, l_42, l_43, l_45, l_47, l_48, l_50, l_57, l_60, l_61, l_62, l_96, l_97, l_99, l_100, l_102, l_105, l_110, l_121, l_122, l_124, l_128, l_200, l_255, l_270, l_350, l_360, l_400, l_440, l_490, l_500, l_999, l_1000, l_9999, l_10000, l_99999, l_100000, l_1000000, l_1000000001, l_1000000002, l_1000000003, l_1000000005, l_1000000011, l_1000000012, l_1000000013, l_1000000014, a3']
      exact Res.mk ⟨rfl, E2⟩
    · by_cases h3 : wh = 1
      · simp (maxSteps := 1000000) (disch := omega) only [vv_e, mm_e, jn_e, bd_e, bd_i, e2_0_0, e2_0_1, e2_0_2, e2_0_4, e2_0_5, e2_0_6, e2_0_7, e2_0_8, e2_0_9, e2_0_10, e2_0_11, e2_0_12, e2_0_24, e2_0_25, e2_0_28, e2_0_29, e2_0_30, e2_0_34, e2_0_35, e2_0_36, e2_0_38, ld_i, st_i, la_i, sl_i, nI_add, pk_mul, pk_sub, ng_add, neg_neg_n, nlt, nle, neq, ng_lt, gn_lt, gg_lt, ng_le, gn_le, gg_le, ng_eq, gn_eq, gg_eq, dv_i, if_pos, if_neg, ite_tt, ite_ff, if_b2, if_b2n, l_0, l_1, l_2, l_3, l_4, l_5, l_6, l_7, l_8, l_9, l_10, l_11, l_12, l_13, l_16, l_20, l_24, l_30, l_32, l_33, l_38, l_42, l_43, l_45, l_47, l_48, l_50, l_57, l_60, l_61, l_62, l_96, l_97, l_99, l_100, l_102, l_105, l_110, l_121, l_122, l_124, l_128, l_200, l_255, l_270, l_350, l_360, l_400, l_440, l_490, l_500, l_999, l_1000, l_9999, l_10000, l_99999, l_100000, l_1000000, l_1000000001, l_1000000002, l_1000000003, l_1000000005, l_1000000011, l_1000000012, l_1000000013, l_1000000014, a3', a4']
        exact Res.mk ⟨rfl, E2⟩
      · have a5' : N2 17 (wh - 2) = nI (B (wh - 2)) := a5 (wh - 2) (by omega)
        simp (maxSteps := 1000000) (disch := omega) only [vv_e, mm_e, jn_e, bd_e, bd_i, e2_0_0, e2_0_1, e2_0_2, e2_0_4, e2_0_5, e2_0_6, e2_0_7, e2_0_8, e2_0_9, e2_0_10, e2_0_11, e2_0_12, e2_0_24, e2_0_25, e2_0_28, e2_0_29, e2_0_30, e2_0_34, e2_0_35, e2_0_36, e2_0_38, ld_i, st_i, la_i, sl_i, nI_add, pk_mul, pk_sub, ng_add, neg_neg_n, nlt, nle, neq, ng_lt, gn_lt, gg_lt, ng_le, gn_le, gg_le, ng_eq, gn_eq, gg_eq, dv_i, if_pos, if_neg, ite_tt, ite_ff, if_b2, if_b2n, l_0, l_1, l_2, l_3, l_4, l_5, l_6, l_7, l_8, l_9, l_10, l_11, l_12, l_13, l_16, l_20, l_24, l_30, l_32, l_33, l_38, l_42, l_43, l_45, l_47, l_48, l_50, l_57, l_60, l_61, l_62, l_96, l_97, l_99, l_100, l_102, l_105, l_110, l_121, l_122, l_124, l_128, l_200, l_255, l_270, l_350, l_360, l_400, l_440, l_490, l_500, l_999, l_1000, l_9999, l_10000, l_99999, l_100000, l_1000000, l_1000000001, l_1000000002, l_1000000003, l_1000000005, l_1000000011, l_1000000012, l_1000000013, l_1000000014, a3', a5']
        exact Res.mk ⟨rfl, E2⟩
  · rw [if_neg hfe] at F3
    have F3' : N2 0 31 = -nI 1 := F3
    rw [F3', if_pos (show -nI 1 < 0 by decide), if_pos (show u < mU B k k by omega)]
    exact Res.mk ⟨rfl, E2⟩
