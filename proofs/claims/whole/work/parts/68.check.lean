theorem AgS.rf (M : Mem) (b : Nat) : AgS M b M b := ⟨rfl, rfl, rfl, rfl, rfl, rfl, rfl, rfl, rfl, fun _ _ => rfl, fun _ _ => rfl, fun _ _ => rfl, fun _ _ => rfl, fun _ _ => rfl, fun _ _ => rfl, fun _ _ => rfl, fun _ _ => rfl, fun _ _ => rfl, fun _ _ => rfl, fun _ _ => rfl, fun _ _ => rfl, fun _ _ => rfl, fun _ _ => rfl, fun _ _ => rfl, fun _ _ => rfl, fun _ _ => rfl, fun _ _ => rfl, fun _ _ => rfl, fun _ _ => rfl, fun _ _ => rfl⟩
theorem R2.os {x y : Option (Int32 × Mem)} (h : Same x y) : R2 (fun _ M N => Inv M N) x y := h
/-- the model's spread leaves what is set aside as it was -/
theorem y_spread3 {nX : Nat} {cn : Int32} {key tbl lv len sp : Nat → Int32} {N : Mem} (hX : RX nX cn key tbl lv len sp (N 1)) (p : Nat) (hp : 0 < p) (hp2 : p < 1000) (y : Int32) : Res (fun _ N' => N' 3 = N 3) (f_X10_spreadFor 0 (nI p) y N) := by
  have e2 := y_cnt hX (nI 12)
  have hn : nX ≤ 14 := hX.2.2.1
  unfold f_X10_spreadFor
  cases hC : CT (N 1) (nI 12) with
  | none =>
    rw [hC] at e2
    simp (maxSteps := 1000000) (disch := omega) only [vv_e, mm_e, jn_e, bd_e, bd_i, e2_0_0, e2_0_1, e2_0_2, e2_0_4, e2_0_5, e2_0_6, e2_0_7, e2_0_8, e2_0_9, e2_0_10, e2_0_11, e2_0_12, e2_0_24, e2_0_25, e2_0_28, e2_0_29, e2_0_30, e2_0_34, e2_0_35, e2_0_36, e2_0_38, e2, orM_n', ld_i, st_i, la_i, sl_i, nI_add, pk_mul, pk_sub, ng_add, neg_neg_n, nlt, nle, neq, ng_lt, gn_lt, gg_lt, ng_le, gn_le, gg_le, ng_eq, gn_eq, gg_eq, dv_i, if_pos, if_neg, ite_tt, ite_ff, if_b2, if_b2n, l_0, l_1, l_2, l_3, l_4, l_5, l_6, l_7, l_8, l_9, l_10, l_11, l_12, l_13, l_16, l_20, l_24, l_30, l_32, l_33, l_38, l_42, l_43, l_45, l_47, l_48, l_50, l_57, l_60, l_61, l_62, l_96, l_97, l_99, l_100, l_102, l_105, l_110, l_121, l_122, l_124, l_128, l_200, l_255, l_270, l_350, l_360, l_400, l_440, l_490, l_500, l_999, l_1000, l_9999, l_10000, l_99999, l_100000, l_1000000, l_1000000001, l_1000000002, l_1000000003, l_1000000005, l_1000000011, l_1000000012, l_1000000013, l_1000000014, pk_div]
    exact Res.mk (by rw [up_ne (by decide), up_ne (by decide)])
  | some t =>
    rw [hC] at e2
    obtain ⟨ht, hg⟩ := hX.ct_s hC
    have hk := hX.key1 ht hg
    simp (maxSteps := 1000000) (disch := omega) only [vv_e, mm_e, jn_e, bd_e, bd_i, e2_0_0, e2_0_1, e2_0_2, e2_0_4, e2_0_5, e2_0_6, e2_0_7, e2_0_8, e2_0_9, e2_0_10, e2_0_11, e2_0_12, e2_0_24, e2_0_25, e2_0_28, e2_0_29, e2_0_30, e2_0_34, e2_0_35, e2_0_36, e2_0_38, e2, orM_s, ld_i, st_i, la_i, sl_i, nI_add, pk_mul, pk_sub, ng_add, neg_neg_n, nlt, nle, neq, ng_lt, gn_lt, gg_lt, ng_le, gn_le, gg_le, ng_eq, gn_eq, gg_eq, dv_i, if_pos, if_neg, ite_tt, ite_ff, if_b2, if_b2n, l_0, l_1, l_2, l_3, l_4, l_5, l_6, l_7, l_8, l_9, l_10, l_11, l_12, l_13, l_16, l_20, l_24, l_30, l_32, l_33, l_38, l_42, l_43, l_45, l_47, l_48, l_50, l_57, l_60, l_61, l_62, l_96, l_97, l_99, l_100, l_102, l_105, l_110, l_121, l_122, l_124, l_128, l_200, l_255, l_270, l_350, l_360, l_400, l_440, l_490, l_500, l_999, l_1000, l_9999, l_10000, l_99999, l_100000, l_1000000, l_1000000001, l_1000000002, l_1000000003, l_1000000005, l_1000000011, l_1000000012, l_1000000013, l_1000000014]
    refine Res.then (RX.wrk14 (N := up (up N 13 110 (nI p)) 13 121 y) hX ht (fun v => if v = nI 110 then nI p else y) (fun i u hu => ?_)) (fun r N' e => ?_)
    · rw [hk] at hu
      rcases hu with ⟨q, -⟩ | ⟨-, ⟨rfl, rfl⟩ | ⟨rfl, rfl⟩⟩ | ⟨q, -⟩
      · exact absurd q (by decide)
      · rw [if_pos rfl, up_k _ _ _ _ _ (by decide), up_same]
      · rw [if_neg (by decide), up_same]
      · exact absurd q (by decide)
    · simp only [vv_e, mm_e, jn_e, bd_e, bd_i, y_held]
      exact Res.mk (by rw [e 3 (by decide), up_ne (by decide), up_ne (by decide)])
theorem op_check : ∀ (p q : Int32) (M N : Mem), Inv M N → Same (f_X9_check 0 p q M) (f_X10_check 0 p q N) := by
  intro p q M N h
  obtain ⟨hS', hI, hB, hH, hP, nw, hnw, w1, w2, w3⟩ := id h
  have h0 : Inv (up M 0 5 0) (up N 0 37 0) := by
    refine inv_out h (fun a h1 h2 => up_ne (by omega)) rfl rfl (fun a ha => up_ne (by omega)) hB (fun i hi => ?_) (fun i hi => ?_) ⟨0, by omega, up_same _ _ _ _, up_same _ _ _ _, fun j hj => absurd hj (Nat.not_lt_zero j)⟩
    · rw [up_ne (show 66 + 2 * i ≠ 0 by omega), up_ne (show 67 + 2 * i ≠ 0 by omega)]
      exact hH i hi
    · rw [up_ne (show 75 + 3 * i ≠ 0 by omega), up_ne (show 76 + 3 * i ≠ 0 by omega), up_ne (show 77 + 3 * i ≠ 0 by omega)]
      exact hP i hi
  unfold f_X9_check f_X10_check
  rw [vv_e, vv_e, mm_e, mm_e, w1, w2, s_land, bd_e, if_b2, s_isInL p 2 12 2 12 _ rfl rfl, bd_e, if_b2]
  by_cases hp : 2 ≤ p ∧ p ≤ 12
  case neg =>
    rw [if_neg hp, if_neg hp]
    exact Same.mk h0
  rw [if_pos hp, if_pos hp, s_arePairs, bd_e, if_b2, s_isPairs, bd_e, if_b2]
  by_cases hq : 1 ≤ q ∧ q ≤ 999
  case neg =>
    rw [if_neg hq, if_neg hq]
    exact Same.mk h0
  rw [if_pos hq, if_pos hq]
  repeat rw [vv_e]
  rw [up_k _ _ _ _ _ (show 2 ≠ 5 by decide), up_k _ _ _ _ _ (show 3 ≠ 37 by decide)]
  obtain ⟨k, hk, rfl⟩ := rgN (p := p) (c := 12) (by decide) ⟨Int32.le_trans (by decide) hp.1, hp.2⟩
  obtain ⟨pr, hpr, rfl⟩ := rgN (p := q) (c := 999) (by decide) ⟨Int32.le_trans (by decide) hq.1, hq.2⟩
  have hpr1 : 1 ≤ pr := (nI_leI (a := 1) (by decide) (by omega)).mp hq.1
  rcases hI with ⟨i1, i2⟩ | ⟨i1, i2, nT, nF, nX, nC, nE, nL, nS, hR⟩
  · rw [i1, i2, if_pos (show (0 : Int32) = 0 from rfl), if_pos (show (0 : Int32) = 0 from rfl)]
    exact Same.mk h0
  rw [i1, i2, if_neg (show ¬ (1 : Int32) = 0 by decide), if_neg (show ¬ (1 : Int32) = 0 by decide)]
  repeat rw [vv_e]
  rw [e1_0_1, e2_0_0, e2_0_2]
  obtain ⟨r1, N1, e1, rfl, a1, a2⟩ := y_aside 1 3 (by decide) rfl rfl (up N 0 37 0)
  obtain ⟨r2, N2, e2, rfl, b1, b2'⟩ := y_aside 2 1 (by decide) rfl rfl N1
  rw [e1, bd_e]
  repeat rw [vv_e]
  rw [e2_0_1, e2, bd_e]
  have hN2 : ∀ j, j < 3510 → N2 1 j = N 2 j := fun j hj => by rw [b1 j hj, a2 2 (by decide), up_ne (by decide)]
  have hR2 : RS nT nF nX nC nE nL nS M 31 (N2 1) := RS.move hR (AgS.rf _ _) hN2
  obtain ⟨hT, hF, hX, hL, hC, hRR, hD, hN, hO, hZ⟩ := id hR2
  obtain ⟨z1, z2, bs, hbs, z3⟩ := id hZ
  have z4 : N2 1 8 = nI bs := z2.trans z3
  obtain ⟨s, hs, o1, o2⟩ := spX (b := 31) (Or.inr rfl) hX pr (by omega) (by omega) (nI 0)
  have o1' : OkM N2 (nI s) (f_X10_spreadFor 0 (nI pr) 0 N2) := o1
  obtain ⟨N3, e3, E3⟩ := o1'.v
  rw [e3, bd_e]
  obtain ⟨r3, M2, e4, q1, q2, q3, q4⟩ := x_drawLand (b := 31) (t := k) (bs := bs) (z := M 31 8) (M := up M 0 5 0) (Or.inr rfl) hk hs (o2 _ (fun k h1 h2 => by rw [up_ne (by omega)])) (by rw [up_ne (by decide)]; exact z3) (by rw [up_ne (by decide)])
  rw [e4, bd_e]
  repeat rw [vv_e]
  rw [mm_e, up_ne (show 31 ≠ 0 by decide)]
  apply R2.same
  -- the class: what stands after the land is drawn and z is back
  have hM3 : Ec (up M 0 5 0) (up M2 31 8 (M 31 8)) := fun a h1 h2 h3 h4 h5 h6 => by
    by_cases e : a = 31
    · subst e
      funext f
      by_cases hf : f = 8
      · subst hf; rw [up_same, up_ne (by decide)]
      · rw [up_k _ _ _ _ _ hf]; exact q2 f hf
    · rw [up_ne e]
      exact q4 a e ⟨h1, h2, h3, h4, h5, h6⟩
  have hrow : ∀ j, j < k → up M2 31 8 (M 31 8) 60 j = dval bs s (zN (M 31 8) (j + 1)) := fun j hj => by rw [up_a _ _ _ _ _ _ (by decide)]; exact q3 j hj
  have hwait : ∀ j, up M2 31 8 (M 31 8) 64 j = M 64 j := fun j => by rw [hM3 64 (by decide) (by decide) (by decide) (by decide) (by decide) (by decide), up_ne (by decide)]
  have hN30 : ∀ a, a = 2 ∨ (4 ≤ a ∧ a ≤ 12) ∨ a = 20 → N3 a = N a := fun a ha => by rw [E3.1 a (by omega), b2' a (by omega), a2 a (by omega), up_ne (by omega)]
  have hN33 : N3 0 3 = N 0 3 ∧ N3 0 13 = N 0 13 ∧ N3 0 37 = 0 := by
    refine ⟨?_, ?_, ?_⟩
    · rw [E3.2.1, b2' 0 (by decide), a2 0 (by decide), up_k _ _ _ _ _ (by decide)]
    · rw [E3.2.2.1, b2' 0 (by decide), a2 0 (by decide), up_k _ _ _ _ _ (by decide)]
    · rw [E3.2.2.2, b2' 0 (by decide), a2 0 (by decide), up_same]
  have hN3a : ∀ j, j < 3510 → N3 3 j = N 1 j := fun j hj => by
    obtain ⟨r', N4, v1, v2⟩ := y_spread3 hX pr (by omega) (by omega) 0
    rw [e3] at v1
    have v3 := (Prod.mk.inj (Option.some.inj v1)).2
    rw [v3, v2, b2' 3 (by decide), a1 j hj, up_ne (by decide)]
  refine ro1 (fun n y N' => ∃ j, j + n = k ∧ y = nI j ∧ N' 1 7 = zN (M 31 8) j ∧ N' 1 8 = nI bs ∧ (∀ i, i < j → N' 21 i = dval bs s (zN (M 31 8) (i + 1))) ∧ (∀ a, a ≠ 1 → a ≠ 21 → N' a = N3 a)) ?_ fuel k _ N3 (by show k < 5000; omega) ⟨0, by omega, rfl, by rw [E3.1 1 (by omega)]; exact z1, by rw [E3.1 1 (by omega)]; exact z4, fun i hi => absurd hi (Nat.not_lt_zero i), fun _ _ _ => rfl⟩
  rintro n rd _ N' ⟨j, hj, rfl, c1, c2, c3, c4⟩ ih
  by_cases hjk : j = k
  case neg =>
    rw [if_pos (nI_lt (show j < k by omega) (by omega)), vv_e, e2_0_38, y_drawn hs c1 c2, bd_e, st_i (by omega) (by decide), nI_1]
    refine ih (n - 1) _ _ (by omega) ⟨j + 1, by omega, rfl, ?_, ?_, fun i hi => ?_, fun a h1 h2 => ?_⟩
    · rw [up_a _ _ _ _ _ _ (by decide), up_same]; rfl
    · rw [up_a _ _ _ _ _ _ (by decide), up_k _ _ _ _ _ (by decide)]; exact c2
    · by_cases hij : i = j
      · subst hij; rw [up_same]; rfl
      · rw [up_k _ _ _ _ _ hij, up_a _ _ _ _ _ _ (by decide)]; exact c3 i (by omega)
    · rw [up_ne h2, up_ne h1]; exact c4 a h1 h2
  subst hjk
  rw [if_neg (nI_nlt (Nat.le_refl _) (by omega))]
  repeat rw [vv_e]
  obtain ⟨r5, N5, e5, rfl, d1, d2⟩ := y_aside 3 1 (by decide) rfl rfl N'
  rw [e5, bd_e]
  have hN5 : ∀ i, i < 3510 → N5 1 i = N 1 i := fun i hi => by rw [d1 i hi, c4 3 (by decide) (by decide)]; exact hN3a i hi
  have hfin : Inv (up M2 31 8 (M 31 8)) N5 := by
    obtain ⟨⟨nT', nF', nX', nC', nE', nL', nS', hS0⟩, hI0, hB0, hH0, hP0, hW0⟩ := h0
    have hN5a : ∀ a, a = 2 ∨ (4 ≤ a ∧ a ≤ 12) ∨ a = 20 → N5 a = up N 0 37 0 a := fun a ha => by rw [d2 a (by omega), c4 a (by omega) (by omega), up_ne (by omega)]; exact hN30 a ha
    have hN50 : N5 0 = N3 0 := by rw [d2 0 (by decide), c4 0 (by decide) (by decide)]
    have x3 : N5 0 3 = up N 0 37 0 0 3 := by rw [hN50, hN33.1, up_k _ _ _ _ _ (by decide)]
    have x13 : N5 0 13 = up N 0 37 0 0 13 := by rw [hN50, hN33.2.1, up_k _ _ _ _ _ (by decide)]
    have x37 : N5 0 37 = up N 0 37 0 0 37 := by rw [hN50, hN33.2.2, up_same]
    have hS5 : RS nT' nF' nX' nC' nE' nL' nS' (up M2 31 8 (M 31 8)) 1 (N5 1) := (RS.move (b' := 1) (M' := up M 0 5 0) hS0 (AgS.rf _ _) (fun i hi => by rw [hN5 i hi, up_ne (by decide)])).ec (Or.inl rfl) hM3
    refine ⟨⟨nT', nF', nX', nC', nE', nL', nS', hS5⟩, ?_, ?_, fun i hi => ?_, fun i hi => ?_, ?_⟩
    · unfold RI at hI0 ⊢
      rw [hM3 0 (by omega) (by omega) (by omega) (by omega) (by omega) (by omega), x3, hN5a 2 (by omega)]
      rcases hI0 with hI0 | ⟨a1, a2, u1, u2, u3, u4, u5, u6, u7, hR0⟩
      · exact Or.inl hI0
      · exact Or.inr ⟨a1, a2, u1, u2, u3, u4, u5, u6, u7, hR0.ec (Or.inr rfl) hM3⟩
    · rw [hM3 61 (by omega) (by omega) (by omega) (by omega) (by omega) (by omega), hM3 62 (by omega) (by omega) (by omega) (by omega) (by omega) (by omega), x13, hN5a 12 (by omega)]; exact hB0
    · rw [hM3 (66 + 2 * i) (by omega) (by omega) (by omega) (by omega) (by omega) (by omega), hM3 (67 + 2 * i) (by omega) (by omega) (by omega) (by omega) (by omega) (by omega), hN5a 4 (by omega), hN5a 5 (by omega), hN5a 6 (by omega)]; exact hH0 i hi
    · rw [hM3 (75 + 3 * i) (by omega) (by omega) (by omega) (by omega) (by omega) (by omega), hM3 (76 + 3 * i) (by omega) (by omega) (by omega) (by omega) (by omega) (by omega), hM3 (77 + 3 * i) (by omega) (by omega) (by omega) (by omega) (by omega) (by omega), hN5a 7 (by omega), hN5a 8 (by omega), hN5a 9 (by omega), hN5a 10 (by omega), hN5a 11 (by omega)]; exact hP0 i hi
    · rw [hM3 0 (by omega) (by omega) (by omega) (by omega) (by omega) (by omega), hM3 64 (by omega) (by omega) (by omega) (by omega) (by omega) (by omega), x37, hN5a 20 (by omega)]; exact hW0
  refine R2.os ?_
  have hw5 : ∀ i, N5 20 i = N 20 i := fun i => by rw [d2 20 (by decide), c4 20 (by decide) (by decide), hN30 20 (by omega)]
  have hr5 : ∀ i, i < j → N5 21 i = dval bs s (zN (M 31 8) (i + 1)) := fun i hi => by rw [d2 21 (by decide)]; exact c3 i hi
  refine lk11 (fun n a M' c N' => ∃ i, i + n = j ∧ i ≤ nw ∧ a = nI i ∧ c = nI i ∧ M' = (up M2 31 8 (M 31 8)) ∧ N' = N5) ?_ fuel fuel j _ (up M2 31 8 (M 31 8)) _ N5 (by show j < 5000; omega) (by show j < 5000; omega) ⟨0, by omega, by omega, rfl, rfl, rfl, rfl⟩
  rintro n2 rc rd2 _ M4 _ N6 ⟨i, hi, hiw, rfl, rfl, hM4, hN6⟩ ih2
  rw [hM4, hN6]
  by_cases hij : i = j
  · subst hij
    by_cases hin : i = nw
    · subst hin
      simp (maxSteps := 1000000) (disch := omega) only [vv_e, mm_e, jn_e, bd_e, bd_i, ld_i, st_i, la_i, sl_i, nI_add, pk_mul, pk_sub, ng_add, neg_neg_n, nlt, nle, neq, ng_lt, gn_lt, gg_lt, ng_le, gn_le, gg_le, ng_eq, gn_eq, gg_eq, dv_i, if_pos, if_neg, ite_tt, ite_ff, if_b2, if_b2n, l_0, l_1, l_2, l_3, l_4, l_5, l_6, l_7, l_8, l_9, l_10, l_11, l_12, l_13, l_16, l_20, l_24, l_30, l_32, l_33, l_38, l_42, l_43, l_45, l_47, l_48, l_50, l_57, l_60, l_61, l_62, l_96, l_97, l_99, l_100, l_102, l_105, l_110, l_121, l_122, l_124, l_128, l_200, l_255, l_270, l_350, l_360, l_400, l_440, l_490, l_500, l_999, l_1000, l_9999, l_10000, l_99999, l_100000, l_1000000, l_1000000001, l_1000000002, l_1000000003, l_1000000005, l_1000000011, l_1000000012, l_1000000013, l_1000000014]
      exact Same.mk hfin
    · simp (maxSteps := 1000000) (disch := omega) only [vv_e, mm_e, jn_e, bd_e, bd_i, ld_i, st_i, la_i, sl_i, nI_add, pk_mul, pk_sub, ng_add, neg_neg_n, nlt, nle, neq, ng_lt, gn_lt, gg_lt, ng_le, gn_le, gg_le, ng_eq, gn_eq, gg_eq, dv_i, if_pos, if_neg, ite_tt, ite_ff, if_b2, if_b2n, l_0, l_1, l_2, l_3, l_4, l_5, l_6, l_7, l_8, l_9, l_10, l_11, l_12, l_13, l_16, l_20, l_24, l_30, l_32, l_33, l_38, l_42, l_43, l_45, l_47, l_48, l_50, l_57, l_60, l_61, l_62, l_96, l_97, l_99, l_100, l_102, l_105, l_110, l_121, l_122, l_124, l_128, l_200, l_255, l_270, l_350, l_360, l_400, l_440, l_490, l_500, l_999, l_1000, l_9999, l_10000, l_99999, l_100000, l_1000000, l_1000000001, l_1000000002, l_1000000003, l_1000000005, l_1000000011, l_1000000012, l_1000000013, l_1000000014]
      exact Same.mk hfin
  by_cases hin : i = nw
  · subst hin
    simp (maxSteps := 1000000) (disch := omega) only [vv_e, mm_e, jn_e, bd_e, bd_i, ld_i, st_i, la_i, sl_i, nI_add, pk_mul, pk_sub, ng_add, neg_neg_n, nlt, nle, neq, ng_lt, gn_lt, gg_lt, ng_le, gn_le, gg_le, ng_eq, gn_eq, gg_eq, dv_i, if_pos, if_neg, ite_tt, ite_ff, if_b2, if_b2n, l_0, l_1, l_2, l_3, l_4, l_5, l_6, l_7, l_8, l_9, l_10, l_11, l_12, l_13, l_16, l_20, l_24, l_30, l_32, l_33, l_38, l_42, l_43, l_45, l_47, l_48, l_50, l_57, l_60, l_61, l_62, l_96, l_97, l_99, l_100, l_102, l_105, l_110, l_121, l_122, l_124, l_128, l_200, l_255, l_270, l_350, l_360, l_400, l_440, l_490, l_500, l_999, l_1000, l_9999, l_10000, l_99999, l_100000, l_1000000, l_1000000001, l_1000000002, l_1000000003, l_1000000005, l_1000000011, l_1000000012, l_1000000013, l_1000000014]
    exact Same.mk hfin
  have x1 := hrow i (by omega)
  have x2 := hwait i
  have x3 := hr5 i (by omega)
  have x4 := (hw5 i).trans (w3 i (by omega))
  simp (maxSteps := 1000000) (disch := omega) only [vv_e, mm_e, jn_e, bd_e, bd_i, e1_0_0, e1_0_1, e1_0_3, e1_0_4, e1_0_6, e1_0_7, e1_1_0, e1_1_1, e1_1_2, e1_1_3, e1_1_4, e1_1_5, e1_1_9, e1_2_1, e1_2_3, e1_2_4, e1_2_5, e1_2_6, e1_2_7, e1_9_1, e1_9_2, e1_9_3, e1_9_4, e1_9_5, e1_9_6, e1_16_0, e1_16_1, e1_19_0, e1_19_2, e1_19_3, e1_19_4, e1_24_1, e1_24_2, e1_24_3, e1_24_5, e1_61_0, e1_61_6, e1_31_0, e1_31_1, e1_31_2, e1_31_3, e1_31_4, e1_31_5, e1_31_9, e1_32_1, e1_32_3, e1_32_4, e1_32_5, e1_32_6, e1_32_7, e1_39_1, e1_39_2, e1_39_3, e1_39_4, e1_39_5, e1_39_6, e1_46_0, e1_46_1, e1_49_0, e1_49_2, e1_49_3, e1_49_4, e1_54_1, e1_54_2, e1_54_3, e1_54_5, e2_0_0, e2_0_1, e2_0_2, e2_0_4, e2_0_5, e2_0_6, e2_0_7, e2_0_8, e2_0_9, e2_0_10, e2_0_11, e2_0_12, e2_0_24, e2_0_25, e2_0_28, e2_0_29, e2_0_30, e2_0_34, e2_0_35, e2_0_36, e2_0_38, ld_i, st_i, la_i, sl_i, nI_add, pk_mul, pk_sub, ng_add, neg_neg_n, nlt, nle, neq, ng_lt, gn_lt, gg_lt, ng_le, gn_le, gg_le, ng_eq, gn_eq, gg_eq, dv_i, if_pos, if_neg, ite_tt, ite_ff, if_b2, if_b2n, l_0, l_1, l_2, l_3, l_4, l_5, l_6, l_7, l_8, l_9, l_10, l_11, l_12, l_13, l_16, l_20, l_24, l_30, l_32, l_33, l_38, l_42, l_43, l_45, l_47, l_48, l_50, l_57, l_60, l_61, l_62, l_96, l_97, l_99, l_100, l_102, l_105, l_110, l_121, l_122, l_124, l_128, l_200, l_255, l_270, l_350, l_360, l_400, l_440, l_490, l_500, l_999, l_1000, l_9999, l_10000, l_99999, l_100000, l_1000000, l_1000000001, l_1000000002, l_1000000003, l_1000000005, l_1000000011, l_1000000012, l_1000000013, l_1000000014, x1, x2, x3, x4]
  by_cases he : M 64 i = dval bs s (zN (M 31 8) (i + 1))
  · simp only [if_pos he]
    exact ih2 (n2 - 1) _ _ _ _ (by omega) ⟨i + 1, by omega, by omega, rfl, rfl, rfl, rfl⟩
  · simp only [if_neg he]
    exact Same.mk hfin
