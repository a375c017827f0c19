theorem cn_eq : ∀ k, k < 256 → (nI k).toNatClampNeg = k := by decide +kernel
theorem c_add {M : Mem} {nX : Nat} (h : M 9 0 = nI nX) (hX : nX < 14) : f_X8_add 9 61 M = some (nI (nX + 1 - 1), up (cpm (up (up (up (up M 10 nX (M 61 3)) 11 nX (M 61 4)) 12 nX (M 61 5)) 13 nX (M 61 7)) 63 0 14 (nX * 96) 96) 9 0 (nI (nX + 1))) := by
  unfold f_X8_add
  simp (maxSteps := 1000000) (disch := omega) only [vv_e, mm_e, jn_e, bd_e, bd_i, e1_0_0, e1_0_1, e1_0_3, e1_0_4, e1_0_6, e1_0_7, e1_1_0, e1_1_1, e1_1_2, e1_1_3, e1_1_4, e1_1_5, e1_1_9, e1_2_1, e1_2_3, e1_2_4, e1_2_5, e1_2_6, e1_2_7, e1_9_1, e1_9_2, e1_9_3, e1_9_4, e1_9_5, e1_9_6, e1_16_0, e1_16_1, e1_19_0, e1_19_2, e1_19_3, e1_19_4, e1_24_1, e1_24_2, e1_24_3, e1_24_5, e1_61_0, e1_61_6, ld_i, st_i, la_i, sl_i, nI_add, pk_mul, pk_sub, ng_add, neg_neg_n, nlt, nle, neq, ng_lt, gn_lt, gg_lt, ng_le, gn_le, gg_le, ng_eq, gn_eq, gg_eq, dv_i, if_pos, if_neg, ite_tt, ite_ff, if_b2, if_b2n, l_0, l_1, l_2, l_3, l_4, l_5, l_6, l_7, l_8, l_9, l_10, l_11, l_12, l_13, l_16, l_20, l_24, l_30, l_32, l_33, l_38, l_42, l_43, l_45, l_47, l_48, l_50, l_57, l_60, l_61, l_62, l_96, l_97, l_99, l_100, l_102, l_105, l_110, l_121, l_122, l_124, l_128, l_200, l_255, l_270, l_350, l_360, l_400, l_440, l_490, l_500, l_999, l_1000, l_9999, l_10000, l_99999, l_100000, l_1000000, l_1000000001, l_1000000002, l_1000000003, l_1000000005, l_1000000011, l_1000000012, l_1000000013, l_1000000014, up_a, up_k, up_same, cpm_ne, l_14, cy_i, h]
theorem c_full {M : Mem} (h : M 9 0 = nI 14) : f_X8_add 9 61 M = some (-1000000003, M) := by
  unfold f_X8_add
  rw [vv_e, h, if_neg (show ¬ nI 14 < 14 by decide)]
theorem inv_text {M N M' N' : Mem} (h : Inv M N) (c : ∀ q, q = 0 ∨ 31 ≤ q → q ≠ 61 → q ≠ 63 → M' q = M q) (c1 : M' 61 1 = nI 0) (m : ∀ q, q ≠ 0 → q ≠ 1 → N' q = N q) (m3 : N' 0 3 = N 0 3) (m13 : N' 0 13 = nI 0) (m37 : N' 0 37 = N 0 37) (hS : RS' M' 1 (N' 1)) : Inv M' N' := by
  obtain ⟨_, hI, hB, hH, hP, hW⟩ := h
  refine ⟨hS, ?_, ⟨0, by omega, c1, m13, fun j hj => absurd hj (by omega)⟩, fun i hi => ?_, fun i hi => ?_, ?_⟩
  · unfold RI at hI ⊢
    rw [c 0 (by omega) (by omega) (by omega), m3, m 2 (by omega) (by omega)]
    rcases hI with hI | ⟨a1, a2, a3⟩
    · exact Or.inl hI
    · exact Or.inr ⟨a1, a2, rs_same a3 (fun a h1 h2 => c a (by omega) (by omega) (by omega))⟩
  · rw [c (66 + 2 * i) (by omega) (by omega) (by omega), c (67 + 2 * i) (by omega) (by omega) (by omega), m 4 (by omega) (by omega), m 5 (by omega) (by omega), m 6 (by omega) (by omega)]; exact hH i hi
  · rw [c (75 + 3 * i) (by omega) (by omega) (by omega), c (76 + 3 * i) (by omega) (by omega) (by omega), c (77 + 3 * i) (by omega) (by omega) (by omega), m 7 (by omega) (by omega), m 8 (by omega) (by omega), m 9 (by omega) (by omega), m 10 (by omega) (by omega), m 11 (by omega) (by omega)]; exact hP i hi
  · rw [c 0 (by omega) (by omega) (by omega), c 64 (by omega) (by omega) (by omega), m37, m 20 (by omega) (by omega)]; exact hW
theorem inv_text0 {M N M' N' : Mem} (h : Inv M N) {nX L : Nat} (hx : N 1 2 = nI nX) (hX : nX ≤ 14) (hL : L = if nX < 14 then 504 + 200 * nX else 3310) (c : FC0 M M') (c1 : M' 61 1 = nI 0) (m : FP L N N') : Inv M' N' := by
  have hLx : 500 + 200 * nX ≤ L ∧ 500 ≤ L := by
    by_cases h14 : nX < 14
    · rw [if_pos h14] at hL; omega
    · rw [if_neg h14] at hL; omega
  refine inv_text h (fun q _ h1 h2 => c q h1 h2) c1 m.1 (m.2.1 3 (by omega)) m.2.2.1 (m.2.1 37 (by omega)) ?_
  obtain ⟨nT, nF, nX', nC, nE, nL, nS, hS, hT, hF, hX', hL', hC, hR, hD, hN, hO, hZ⟩ := h.st
  have e : ∀ j, j < L → N' 1 j = N 1 j := fun j hj => m.2.2.2 j (Or.inl hj)
  have hxx : nX' = nX := by
    have := hX'.2.1
    rw [hx] at this
    exact ((nI_eq (a := nX) (b := nX') (by omega) (by have := hX'.2.2.1; omega)).mp this).symm
  have hX14 := hX'.2.2.1
  have hL := hL'
  have hX := hX'
  exact rs_same (M := M) ⟨nT, nF, nX', nC, nE, nL, nS, hT.cg (fun j hj => e j (by omega)), hF.cg (fun j hj => e j (by omega)), hX.cg (fun j hj => e j (by omega)), hL.cg hF.2.2.1 (fun j hj => e j (by omega)), hC.cg (fun j hj => e j (by omega)), hR.cg (fun j hj => e j (by omega)), hD.cg (fun j hj => e j (by omega)), hN.cg (fun j hj => e j (by omega)), hO.cg (fun j hj => e j (by omega)), hZ.cg (fun j hj => e j (by omega))⟩ (fun a h1 h2 => c a (by omega) (by omega))
theorem op_text : ∀ (M N : Mem), Inv M N → Same (f_X9_text 0 M) (f_X10_text 0 N) := by
  intro M N h
  obtain ⟨nT, nF, nX, nC, nE, nL, nS, hS, hT, hF, hX, hL, hC, hR, hD, hN, hO, hZ⟩ := h.st
  obtain ⟨n, hn, b1, b2', b3⟩ := h.2.2.1
  have hBC : BC n (fun j => (N 12 j).toNatClampNeg) M := by
    refine ⟨hn, b1, fun j hj => ?_⟩
    obtain ⟨⟨k, hk, ek⟩, eb⟩ := b3 j hj
    show (N 12 j).toNatClampNeg < 256 ∧ M 62 j = cbv (N 12 j).toNatClampNeg
    rw [eb, ek, cn_eq k hk]
    exact ⟨hk, cb_eq k hk⟩
  have hBM : BM n (fun j => (N 12 j).toNatClampNeg) N := by
    refine ⟨hn, b2', fun j hj => ?_⟩
    obtain ⟨⟨k, hk, ek⟩, eb⟩ := b3 j hj
    show (N 12 j).toNatClampNeg < 256 ∧ N 12 j = nI (N 12 j).toNatClampNeg
    rw [ek, cn_eq k hk]
    exact ⟨hk, rfl⟩
  have hx0 : M 9 0 = nI nX := hX.1
  have hx2 : N 1 2 = nI nX := hX.2.1
  have hX14 : nX ≤ 14 := hX.2.2.1
  obtain ⟨r, M1, r', N1, eR, eP, hFC, hFP, hO'⟩ := reads hBC hBM hx2 hX14 (L := if nX < 14 then 504 + 200 * nX else 3310) rfl
  generalize hLe : (if nX < 14 then 504 + 200 * nX else 3310) = L at hFP hO'
  have cx : f_X9_text 0 M = (if M1 61 2 < 0 then (bd (f_X8_add 9 61 (up M1 61 1 0)) fun x9 M => some (x9, M)) else some (((-100) - M1 61 2), up M1 61 1 0)) := by
    unfold f_X9_text
    rw [vv_e, e1_0_3, eR, bd_e, vv_e, mm_e, vv_e, vv_e, up_k _ _ _ _ _ (by decide), vv_e, e1_0_0, vv_e, e1_1_1, vv_e, vv_e, vv_e, up_k _ _ _ _ _ (by decide)]
  have mx : f_X10_text 0 N = (if r' < 0 then some (((-100) - N1 0 14), N1) else (ld N1 1 2 3510 fun x3 => if x3 = 14 then some ((-1000000003), N1) else vv (grf G2 0 0) fun x4 => ld N1 x4 2 3510 fun x5 => bd (f_X10_textAt 0 x5 N1) fun x6 M => vv (grf G2 0 0) fun x7 => st M x7 (x6 + 0) 3510 r' fun M => vv (grf G2 0 0) fun x8 => vv (M 0 23) fun x9 => st M x8 (x6 + 1) 3510 x9 fun M => vv (grf G2 0 0) fun x10 => vv (M 0 21) fun x11 => st M x10 (x6 + 2) 3510 x11 fun M => vv (grf G2 0 0) fun x12 => ld M x12 2 3510 fun x13 => st M x12 2 3510 (x13 + 1) fun M => vv (grf G2 0 0) fun x14 => ld M x14 2 3510 fun x15 => some ((x15 - 1), M))) := by
    unfold f_X10_text
    rw [eP, bd_e, vv_e, vv_e, e2_0_0]
  rw [cx, mx]
  clear cx mx
  have c1' : up M1 61 1 0 61 1 = nI 0 := by rw [up_same]; rfl
  rcases hO' with ⟨a', ha', f2, rfl, f14⟩ | ⟨f2, kc, km, lv, d, hkc, rfl, f3, f4, f5, g23, f7, g21, hd, hSg⟩
  · rw [f2, f14, if_neg (show ¬ nI a' < 0 from nI_nlt (a := a') (b := 0) (by omega) (by omega)), if_pos (show -nI 1 < 0 by decide)]
    exact Same.mk (inv_text0 h hx2 hX14 hLe.symm hFC.u c1' hFP)
  have hN2 : N1 1 2 = nI nX := by
    rw [hFP.2.2.2 2 (by
      by_cases h14 : nX < 14
      · rw [if_pos h14] at hLe; omega
      · rw [if_neg h14] at hLe; omega)]; exact hx2
  have hM9 : up M1 61 1 0 9 0 = nI nX := by rw [up_ne (by decide), hFC 9 (by decide) (by decide)]; exact hx0
  rw [f2, if_pos (show -nI 1 < 0 by decide), if_neg (show ¬ nI km < 0 from nI_nlt (a := km) (b := 0) (by omega) (by omega))]
  by_cases h14 : nX < 14
  case neg =>
    have e14 : nX = 14 := by omega
    rw [c_full (show up M1 61 1 0 9 0 = nI 14 by rw [hM9, e14]), bd_e, ld_n (i := 2) (M := N1) 2 rfl (by decide) (by decide), hN2, if_pos (show nI nX = 14 by rw [e14]; rfl)]
    exact Same.mk (inv_text0 h hx2 hX14 hLe.symm hFC.u c1' hFP)
  rw [if_pos h14] at hLe
  have mk : (ld N1 1 2 3510 fun x3 => if x3 = 14 then some ((-1000000003), N1) else vv (grf G2 0 0) fun x4 => ld N1 x4 2 3510 fun x5 => bd (f_X10_textAt 0 x5 N1) fun x6 M => vv (grf G2 0 0) fun x7 => st M x7 (x6 + 0) 3510 (nI km) fun M => vv (grf G2 0 0) fun x8 => vv (M 0 23) fun x9 => st M x8 (x6 + 1) 3510 x9 fun M => vv (grf G2 0 0) fun x10 => vv (M 0 21) fun x11 => st M x10 (x6 + 2) 3510 x11 fun M => vv (grf G2 0 0) fun x12 => ld M x12 2 3510 fun x13 => st M x12 2 3510 (x13 + 1) fun M => vv (grf G2 0 0) fun x14 => ld M x14 2 3510 fun x15 => some ((x15 - 1), M)) = some (nI (nX + 1 - 1), up (up (up (up N1 1 (500 + 200 * nX) (nI km)) 1 (500 + 200 * nX + 1) (nI lv)) 1 (500 + 200 * nX + 2) (nI d)) 1 2 (nI (nX + 1))) := by
    simp (maxSteps := 1000000) (disch := omega) only [vv_e, mm_e, jn_e, bd_e, bd_i, e2_0_0, e2_0_1, e2_0_2, e2_0_4, e2_0_5, e2_0_6, e2_0_7, e2_0_8, e2_0_9, e2_0_10, e2_0_11, e2_0_12, e2_0_24, e2_0_25, e2_0_28, e2_0_29, e2_0_30, e2_0_34, e2_0_35, e2_0_36, e2_0_38, ld_i, st_i, la_i, sl_i, nI_add, pk_mul, pk_sub, ng_add, neg_neg_n, nlt, nle, neq, ng_lt, gn_lt, gg_lt, ng_le, gn_le, gg_le, ng_eq, gn_eq, gg_eq, dv_i, if_pos, if_neg, ite_tt, ite_ff, if_b2, if_b2n, l_0, l_1, l_2, l_3, l_4, l_5, l_6, l_7, l_8, l_9, l_10, l_11, l_12, l_13, l_16, l_20, l_24, l_30, l_32, l_33, l_38, l_42, l_43, l_45, l_47, l_48, l_50, l_57, l_60, l_61, l_62, l_96, l_97, l_99, l_100, l_102, l_105, l_110, l_121, l_122, l_124, l_128, l_200, l_255, l_270, l_350, l_360, l_400, l_440, l_490, l_500, l_999, l_1000, l_9999, l_10000, l_99999, l_100000, l_1000000, l_1000000001, l_1000000002, l_1000000003, l_1000000005, l_1000000011, l_1000000012, l_1000000013, l_1000000014, up_a, up_k, up_same, l_14, ta_eq, hN2, g23, g21, Nat.add_zero]
  rw [c_add hM9 h14, bd_e, mk]
  clear mk
  have q3 : up M1 61 1 0 61 3 = nI kc := by rw [up_k _ _ _ _ _ (by decide)]; exact f3
  have q4 : up M1 61 1 0 61 4 = M1 61 4 := by rw [up_k _ _ _ _ _ (by decide)]
  have q5 : up M1 61 1 0 61 5 = nI lv := by rw [up_k _ _ _ _ _ (by decide)]; exact f5
  have q7 : up M1 61 1 0 61 7 = nI d := by rw [up_k _ _ _ _ _ (by decide)]; exact f7
  have q63 : up M1 61 1 0 63 = M1 63 := up_ne (by decide)
  have qF : FC0 M (up M1 61 1 0) := hFC.u
  rw [q3, q4, q5, q7]
  generalize up M1 61 1 0 = M2 at c1' q63 qF
  have e : ∀ j, j < 500 + 200 * nX → j ≠ 2 → (up (up (up (up N1 1 (500 + 200 * nX) (nI km)) 1 (500 + 200 * nX + 1) (nI lv)) 1 (500 + 200 * nX + 2) (nI d)) 1 2 (nI (nX + 1))) 1 j = N 1 j := by
    intro j h1 h2
    rw [up_k _ _ _ _ _ h2, up_k _ _ _ _ _ (by omega), up_k _ _ _ _ _ (by omega), up_k _ _ _ _ _ (by omega)]
    exact hFP.2.2.2 j (by omega)
  have k1 : ∀ j, j ≠ 2 → j ≠ 500 + 200 * nX → j ≠ 500 + 200 * nX + 1 → j ≠ 500 + 200 * nX + 2 → (up (up (up (up N1 1 (500 + 200 * nX) (nI km)) 1 (500 + 200 * nX + 1) (nI lv)) 1 (500 + 200 * nX + 2) (nI d)) 1 2 (nI (nX + 1))) 1 j = N1 1 j := by
    intro j h1 h2 h3 h4
    rw [up_k _ _ _ _ _ h1, up_k _ _ _ _ _ h4, up_k _ _ _ _ _ h3, up_k _ _ _ _ _ h2]
  have k500 : (up (up (up (up N1 1 (500 + 200 * nX) (nI km)) 1 (500 + 200 * nX + 1) (nI lv)) 1 (500 + 200 * nX + 2) (nI d)) 1 2 (nI (nX + 1))) 1 (500 + 200 * nX) = nI km := by
    rw [up_k _ _ _ _ _ (by omega), up_k _ _ _ _ _ (by omega), up_k _ _ _ _ _ (by omega), up_same]
  have k501 : (up (up (up (up N1 1 (500 + 200 * nX) (nI km)) 1 (500 + 200 * nX + 1) (nI lv)) 1 (500 + 200 * nX + 2) (nI d)) 1 2 (nI (nX + 1))) 1 (501 + 200 * nX) = nI lv := by
    rw [up_k _ _ _ _ _ (by omega), up_k _ _ _ _ _ (by omega), show 501 + 200 * nX = 500 + 200 * nX + 1 by omega, up_same]
  have k502 : (up (up (up (up N1 1 (500 + 200 * nX) (nI km)) 1 (500 + 200 * nX + 1) (nI lv)) 1 (500 + 200 * nX + 2) (nI d)) 1 2 (nI (nX + 1))) 1 (502 + 200 * nX) = nI d := by
    rw [up_k _ _ _ _ _ (by omega), show 502 + 200 * nX = 500 + 200 * nX + 2 by omega, up_same]
  have k2 : (up (up (up (up N1 1 (500 + 200 * nX) (nI km)) 1 (500 + 200 * nX + 1) (nI lv)) 1 (500 + 200 * nX + 2) (nI d)) 1 2 (nI (nX + 1))) 1 2 = nI (nX + 1) := up_same _ _ _ _
  have kq : ∀ q, q ≠ 1 → (up (up (up (up N1 1 (500 + 200 * nX) (nI km)) 1 (500 + 200 * nX + 1) (nI lv)) 1 (500 + 200 * nX + 2) (nI d)) 1 2 (nI (nX + 1))) q = N1 q := fun q hq => by rw [up_ne hq, up_ne hq, up_ne hq, up_ne hq]
  generalize (up (up (up (up N1 1 (500 + 200 * nX) (nI km)) 1 (500 + 200 * nX + 1) (nI lv)) 1 (500 + 200 * nX + 2) (nI d)) 1 2 (nI (nX + 1))) = N2 at e k1 k500 k501 k502 k2 kq
  have cq : ∀ q, q ≠ 9 → q ≠ 10 → q ≠ 11 → q ≠ 12 → q ≠ 13 → q ≠ 14 → up (cpm (up (up (up (up M2 10 nX (nI kc)) 11 nX (M1 61 4)) 12 nX (nI lv)) 13 nX (nI d)) 63 0 14 (nX * 96) 96) 9 0 (nI (nX + 1)) q = M2 q := fun q h9 h10 h11 h12 h13 h14 => by rw [up_ne h9, cpm_ne h14, up_ne h13, up_ne h12, up_ne h11, up_ne h10]
  have cM : ∀ q, q ≠ 9 → q ≠ 10 → q ≠ 11 → q ≠ 12 → q ≠ 13 → q ≠ 14 → q ≠ 61 → q ≠ 63 → up (cpm (up (up (up (up M2 10 nX (nI kc)) 11 nX (M1 61 4)) 12 nX (nI lv)) 13 nX (nI d)) 63 0 14 (nX * 96) 96) 9 0 (nI (nX + 1)) q = M q := fun q h9 h10 h11 h12 h13 h14 h61 h63 => (cq q h9 h10 h11 h12 h13 h14).trans (qF q h61 h63)
  have y9 : up (cpm (up (up (up (up M2 10 nX (nI kc)) 11 nX (M1 61 4)) 12 nX (nI lv)) 13 nX (nI d)) 63 0 14 (nX * 96) 96) 9 0 (nI (nX + 1)) 9 0 = nI (nX + 1) := up_same _ _ _ _
  have y10 : up (cpm (up (up (up (up M2 10 nX (nI kc)) 11 nX (M1 61 4)) 12 nX (nI lv)) 13 nX (nI d)) 63 0 14 (nX * 96) 96) 9 0 (nI (nX + 1)) 10 = upd (M 10) nX (nI kc) := by
    rw [up_ne (by decide), cpm_ne (by decide), up_ne (by decide), up_ne (by decide), up_ne (by decide), up_at, qF 10 (by decide) (by decide)]
  have y11 : up (cpm (up (up (up (up M2 10 nX (nI kc)) 11 nX (M1 61 4)) 12 nX (nI lv)) 13 nX (nI d)) 63 0 14 (nX * 96) 96) 9 0 (nI (nX + 1)) 11 = upd (M 11) nX (M1 61 4) := by
    rw [up_ne (by decide), cpm_ne (by decide), up_ne (by decide), up_ne (by decide), up_at, up_ne (by decide), qF 11 (by decide) (by decide)]
  have y12 : up (cpm (up (up (up (up M2 10 nX (nI kc)) 11 nX (M1 61 4)) 12 nX (nI lv)) 13 nX (nI d)) 63 0 14 (nX * 96) 96) 9 0 (nI (nX + 1)) 12 = upd (M 12) nX (nI lv) := by
    rw [up_ne (by decide), cpm_ne (by decide), up_ne (by decide), up_at, up_ne (by decide), up_ne (by decide), qF 12 (by decide) (by decide)]
  have y13 : up (cpm (up (up (up (up M2 10 nX (nI kc)) 11 nX (M1 61 4)) 12 nX (nI lv)) 13 nX (nI d)) 63 0 14 (nX * 96) 96) 9 0 (nI (nX + 1)) 13 = upd (M 13) nX (nI d) := by
    rw [up_ne (by decide), cpm_ne (by decide), up_at, up_ne (by decide), up_ne (by decide), up_ne (by decide), qF 13 (by decide) (by decide)]
  have y14 : up (cpm (up (up (up (up M2 10 nX (nI kc)) 11 nX (M1 61 4)) 12 nX (nI lv)) 13 nX (nI d)) 63 0 14 (nX * 96) 96) 9 0 (nI (nX + 1)) 14 = va_cpy (M1 63) (M 14) 0 (nX * 96) 96 := by
    rw [up_ne (by decide), cpm_at, up_ne (by decide), up_ne (by decide), up_ne (by decide), up_ne (by decide), up_ne (by decide), up_ne (by decide), up_ne (by decide), up_ne (by decide), q63, qF 14 (by decide) (by decide)]
  generalize up (cpm (up (up (up (up M2 10 nX (nI kc)) 11 nX (M1 61 4)) 12 nX (nI lv)) 13 nX (nI d)) 63 0 14 (nX * 96) 96) 9 0 (nI (nX + 1)) = M3 at cq cM y9 y10 y11 y12 y13 y14
  have RX' : RX (nX + 1) (M3 9 0) (M3 10) (M3 11) (M3 12) (M3 13) (M3 14) (N2 1) := by
    refine ⟨y9, k2, by omega, fun t ht => ?_⟩
    rw [y10, y11, y12, y13, y14]
    by_cases et : t = nX
    · subst et
      rw [upd_s, upd_s, upd_s, upd_s, k500, k501, k502]
      refine ⟨?_, rfl, d, hd, rfl, rfl, ?_⟩
      · rcases hkc with ⟨rfl, hk⟩ | ⟨rfl, rfl⟩ | ⟨rfl, rfl⟩
        · rcases f4 with ⟨_, f4⟩ | ⟨z, _⟩
          · exact Or.inl ⟨rfl, by rw [f4]; exact ⟨km, hk, rfl⟩, f4.symm⟩
          · exact absurd rfl z
        · rcases f4 with ⟨z, _⟩ | ⟨_, f4⟩
          · exact absurd z (by decide)
          · exact Or.inr (Or.inl ⟨rfl, f4, rfl⟩)
        · rcases f4 with ⟨z, _⟩ | ⟨_, f4⟩
          · exact absurd z (by decide)
          · exact Or.inr (Or.inr ⟨rfl, f4, rfl⟩)
      · obtain ⟨dp, w1, w2, w3⟩ := hSg 0
        refine ⟨dp, w1, w2, fun k hk => ?_⟩
        have w := w3 k (by omega) hk
        show StepOK (nI kc) (va_cpy (M1 63) (M 14) 0 (t * 96) 96 (96 * t + k)) (N2 1 (504 + 200 * t + 2 * k)) (N2 1 (505 + 200 * t + 2 * k)) (dp k) (dp (k + 1))
        rw [pk_cpy_in (by omega) (by omega), k1 (504 + 200 * t + 2 * k) (by omega) (by omega) (by omega) (by omega), k1 (505 + 200 * t + 2 * k) (by omega) (by omega) (by omega) (by omega), show 0 + (96 * t + k - t * 96) = k by omega, show 504 + 200 * t + 2 * k = L + 2 * k by omega, show 505 + 200 * t + 2 * k = L + 2 * k + 1 by omega]
        exact w
    · rw [upd_n et, upd_n et, upd_n et, upd_n et, e (500 + 200 * t) (by omega) (by omega), e (501 + 200 * t) (by omega) (by omega), e (502 + 200 * t) (by omega) (by omega)]
      obtain ⟨p1, p2, m, hm, p3, p4, dp, w1, w2, w3⟩ := hX.2.2.2 t (by omega)
      refine ⟨p1, p2, m, hm, p3, p4, dp, w1, w2, fun k hk => ?_⟩
      show StepOK (M 10 t) (va_cpy (M1 63) (M 14) 0 (nX * 96) 96 (96 * t + k)) (N2 1 (504 + 200 * t + 2 * k)) (N2 1 (505 + 200 * t + 2 * k)) (dp k) (dp (k + 1))
      rw [pk_cpy_out (by omega), e (504 + 200 * t + 2 * k) (by omega) (by omega), e (505 + 200 * t + 2 * k) (by omega) (by omega)]
      exact w3 k hk
  refine Same.mk (inv_text h (fun q hq h61 h63 => cM q (by omega) (by omega) (by omega) (by omega) (by omega) (by omega) h61 h63) ?_ (fun q h0 h1 => by rw [kq q h1]; exact hFP.1 q h0 h1) ?_ ?_ ?_ ⟨nT, nF, nX + 1, nC, nE, nL, nS, ?_⟩)
  · rw [cq 61 (by decide) (by decide) (by decide) (by decide) (by decide) (by decide)]; exact c1'
  · rw [kq 0 (by decide)]; exact hFP.2.1 3 (by omega)
  · rw [kq 0 (by decide)]; exact hFP.2.2.1
  · rw [kq 0 (by decide)]; exact hFP.2.1 37 (by omega)
  · have cc : ∀ q, q ≠ 9 → q ≠ 10 → q ≠ 11 → q ≠ 12 → q ≠ 13 → q ≠ 14 → q < 31 → M3 q = M q := fun q h9 h10 h11 h12 h13 h14 h31 => cM q h9 h10 h11 h12 h13 h14 (by omega) (by omega)
    show RT nT (M3 2 0) (M3 3) (N2 1) ∧ RF nT nF (M3 2 2) (M3 4) (M3 5) (M3 6) (M3 7) (M3 8) (N2 1) ∧ RX (nX + 1) (M3 9 0) (M3 10) (M3 11) (M3 12) (M3 13) (M3 14) (N2 1) ∧ RLn nF (M3 17) (M3 18) (M3 4) (N2 1) ∧ RC nF nC (M3 1 6) (M3 29) (N2 1) ∧ RR (M3 20) (N2 1) ∧ RD nE (M3 19 1) (M3 21) (M3 22) (N2 1) ∧ RN nL (M3 24 0) (M3 25) (M3 26) (M3 27) (N2 1) ∧ RO nS (M3 24 4) (M3 28) (N2 1) ∧ RZ (M3 1 8) (M3 1 7) (N2 1)
    rw [cc 1 (by decide) (by decide) (by decide) (by decide) (by decide) (by decide) (by decide) , cc 2 (by decide) (by decide) (by decide) (by decide) (by decide) (by decide) (by decide) , cc 3 (by decide) (by decide) (by decide) (by decide) (by decide) (by decide) (by decide) , cc 4 (by decide) (by decide) (by decide) (by decide) (by decide) (by decide) (by decide) , cc 5 (by decide) (by decide) (by decide) (by decide) (by decide) (by decide) (by decide) , cc 6 (by decide) (by decide) (by decide) (by decide) (by decide) (by decide) (by decide) , cc 7 (by decide) (by decide) (by decide) (by decide) (by decide) (by decide) (by decide) , cc 8 (by decide) (by decide) (by decide) (by decide) (by decide) (by decide) (by decide) , cc 17 (by decide) (by decide) (by decide) (by decide) (by decide) (by decide) (by decide) , cc 18 (by decide) (by decide) (by decide) (by decide) (by decide) (by decide) (by decide) , cc 19 (by decide) (by decide) (by decide) (by decide) (by decide) (by decide) (by decide) , cc 20 (by decide) (by decide) (by decide) (by decide) (by decide) (by decide) (by decide) , cc 21 (by decide) (by decide) (by decide) (by decide) (by decide) (by decide) (by decide) , cc 22 (by decide) (by decide) (by decide) (by decide) (by decide) (by decide) (by decide) , cc 24 (by decide) (by decide) (by decide) (by decide) (by decide) (by decide) (by decide) , cc 25 (by decide) (by decide) (by decide) (by decide) (by decide) (by decide) (by decide) , cc 26 (by decide) (by decide) (by decide) (by decide) (by decide) (by decide) (by decide) , cc 27 (by decide) (by decide) (by decide) (by decide) (by decide) (by decide) (by decide) , cc 28 (by decide) (by decide) (by decide) (by decide) (by decide) (by decide) (by decide) , cc 29 (by decide) (by decide) (by decide) (by decide) (by decide) (by decide) (by decide) ]
    exact ⟨hT.cg (fun j hj => e j (by omega) (by omega)), hF.cg (fun j hj => e j (by omega) (by omega)), RX', hL.cg hF.2.2.1 (fun j hj => e j (by omega) (by omega)), hC.cg (fun j hj => e j (by omega) (by omega)), hR.cg (fun j hj => e j (by omega) (by omega)), hD.cg (fun j hj => e j (by omega) (by omega)), hN.cg (fun j hj => e j (by omega) (by omega)), hO.cg (fun j hj => e j (by omega) (by omega)), hZ.cg (fun j hj => e j (by omega) (by omega))⟩
