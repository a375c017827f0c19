def prN (j p : Nat) : Nat := if j = 1 then 1 else if j = 2 then 3 else if j = 3 then 4 else if j = 4 then 2 else if j = 5 then 8 else if j = 6 then 20 else if j = 7 then 20 + p / 100 else 5
theorem x_prN (j p : Nat) (hj : j < 8) (hp : p < 1000) (M : Mem) : f_X9_price (nI j) (nI p) M = some (nI (prN j p), M) := by
  unfold f_X9_price
  rcases (show j = 0 ∨ j = 1 ∨ j = 2 ∨ j = 3 ∨ j = 4 ∨ j = 5 ∨ j = 6 ∨ j = 7 by omega) with rfl | rfl | rfl | rfl | rfl | rfl | rfl | rfl
  · rfl
  · rfl
  · rfl
  · rfl
  · rfl
  · rfl
  · rfl
  · have e : pricesF 7 = nI 20 := rfl
    simp (maxSteps := 1000000) (disch := omega) only [vv_e, mm_e, jn_e, bd_e, bd_i, ld_i, st_i, la_i, sl_i, nI_add, pk_mul, pk_sub, ng_add, neg_neg_n, nlt, nle, neq, ng_lt, gn_lt, gg_lt, ng_le, gn_le, gg_le, ng_eq, gn_eq, gg_eq, dv_i, if_pos, if_neg, ite_tt, ite_ff, if_b2, if_b2n, l_0, l_1, l_2, l_3, l_4, l_5, l_6, l_7, l_8, l_9, l_10, l_11, l_12, l_13, l_16, l_20, l_24, l_30, l_32, l_33, l_38, l_42, l_43, l_45, l_47, l_48, l_50, l_57, l_60, l_61, l_62, l_96, l_97, l_99, l_100, l_102, l_105, l_110, l_121, l_122, l_124, l_128, l_200, l_255, l_270, l_350, l_360, l_400, l_440, l_490, l_500, l_999, l_1000, l_9999, l_10000, l_99999, l_100000, l_1000000, l_1000000001, l_1000000002, l_1000000003, l_1000000005, l_1000000011, l_1000000012, l_1000000013, l_1000000014, s_isKind, e, pk_div]
    rfl
theorem y_prN (j p : Nat) (hj : j < 8) (hp : p < 1000) (M : Mem) : f_X10_priceOf (nI j) (nI p) M = some (nI (prN j p), M) := by
  obtain ⟨r, e1, e2⟩ := price_eq j hj (nI p) M M
  rw [x_prN j p hj hp] at e1
  rw [e2]
  have := (Prod.mk.inj (Option.some.inj e1)).1
  rw [this]
section
variable {nT nF nX nC nE nL nS b : Nat} {M N : Mem}
theorem x_fits6 (hb : b = 1 ∨ b = 31) (h : RS nT nF nX nC nE nL nS M b (N 1)) {f : Nat} (hf : f < nF) : OkC M (nI 1) (f_X6_fits b (nI f) (nI 6) M) := by
  obtain ⟨hT, hF, hX, -⟩ := id h
  obtain ⟨f1, f2, f3, f4⟩ := id hF
  obtain ⟨t, k, v, p, q1, q2, q3, q4, q5, a1, a2, a3, a4, c1, c2, c3, c4, c5, c6⟩ := hF.fig hf
  unfold f_X6_fits
  rcases c6 with c6 | ⟨f', hf', c6⟩
  · simp (maxSteps := 1000000) (disch := omega) only [vv_e, mm_e, jn_e, bd_e, bd_i, gb_0_0, gb_0_1, gb_0_2, gb_0_3, gb_0_4, gb_0_5, gb_0_9, gb_1_1, gb_1_3, gb_1_4, gb_1_5, gb_1_6, gb_1_7, gb_8_1, gb_8_2, gb_8_3, gb_8_4, gb_8_5, gb_8_6, gb_15_0, gb_15_1, gb_18_0, gb_18_2, gb_18_3, gb_18_4, gb_23_1, gb_23_2, gb_23_3, gb_23_5, s_has, f1, ld_i, st_i, la_i, sl_i, nI_add, pk_mul, pk_sub, ng_add, neg_neg_n, nlt, nle, neq, ng_lt, gn_lt, gg_lt, ng_le, gn_le, gg_le, ng_eq, gn_eq, gg_eq, dv_i, if_pos, if_neg, ite_tt, ite_ff, if_b2, if_b2n, l_0, l_1, l_2, l_3, l_4, l_5, l_6, l_7, l_8, l_9, l_10, l_11, l_12, l_13, l_16, l_20, l_24, l_30, l_32, l_33, l_38, l_42, l_43, l_45, l_47, l_48, l_50, l_57, l_60, l_61, l_62, l_96, l_97, l_99, l_100, l_102, l_105, l_110, l_121, l_122, l_124, l_128, l_200, l_255, l_270, l_350, l_360, l_400, l_440, l_490, l_500, l_999, l_1000, l_9999, l_10000, l_99999, l_100000, l_1000000, l_1000000001, l_1000000002, l_1000000003, l_1000000005, l_1000000011, l_1000000012, l_1000000013, l_1000000014, a3, c6]
    exact OkC.mk Ec.rfl'
  · simp (maxSteps := 1000000) (disch := omega) only [vv_e, mm_e, jn_e, bd_e, bd_i, gb_0_0, gb_0_1, gb_0_2, gb_0_3, gb_0_4, gb_0_5, gb_0_9, gb_1_1, gb_1_3, gb_1_4, gb_1_5, gb_1_6, gb_1_7, gb_8_1, gb_8_2, gb_8_3, gb_8_4, gb_8_5, gb_8_6, gb_15_0, gb_15_1, gb_18_0, gb_18_2, gb_18_3, gb_18_4, gb_23_1, gb_23_2, gb_23_3, gb_23_5, s_has, f1, ld_i, st_i, la_i, sl_i, nI_add, pk_mul, pk_sub, ng_add, neg_neg_n, nlt, nle, neq, ng_lt, gn_lt, gg_lt, ng_le, gn_le, gg_le, ng_eq, gn_eq, gg_eq, dv_i, if_pos, if_neg, ite_tt, ite_ff, if_b2, if_b2n, l_0, l_1, l_2, l_3, l_4, l_5, l_6, l_7, l_8, l_9, l_10, l_11, l_12, l_13, l_16, l_20, l_24, l_30, l_32, l_33, l_38, l_42, l_43, l_45, l_47, l_48, l_50, l_57, l_60, l_61, l_62, l_96, l_97, l_99, l_100, l_102, l_105, l_110, l_121, l_122, l_124, l_128, l_200, l_255, l_270, l_350, l_360, l_400, l_440, l_490, l_500, l_999, l_1000, l_9999, l_10000, l_99999, l_100000, l_1000000, l_1000000001, l_1000000002, l_1000000003, l_1000000005, l_1000000011, l_1000000012, l_1000000013, l_1000000014, a3, c6]
    exact OkC.mk Ec.rfl'
end
/-- the class's way to the cheapest kind: from 7 down -/
def cbN (ft : Nat → Bool) (p : Nat) : Nat → Nat
  | 0 => 6
  | m + 1 => if ft (7 - m) = true ∧ prN (7 - m) p ≤ prN (cbN ft p m) p then 7 - m else cbN ft p m
theorem prN_b (j p : Nat) (hp : p < 1000) : prN j p ≤ 29 := by
  unfold prN
  split
  · omega
  split
  · omega
  split
  · omega
  split
  · omega
  split
  · omega
  split
  · omega
  split <;> omega
theorem prN_lo (j p : Nat) (h1 : 1 ≤ j) (h2 : j ≤ 5) : prN j p ≤ 8 := by
  rcases (show j = 1 ∨ j = 2 ∨ j = 3 ∨ j = 4 ∨ j = 5 by omega) with rfl | rfl | rfl | rfl | rfl <;> unfold prN <;> simp
theorem prN_hi (j p : Nat) (h1 : 6 ≤ j) (h2 : j ≤ 7) : 20 ≤ prN j p := by
  rcases (show j = 6 ∨ j = 7 by omega) with rfl | rfl <;> unfold prN <;> simp
theorem cbN_ok {ft : Nat → Bool} {p : Nat} (h6 : ft 6 = true) : ∀ m, m ≤ 7 → 1 ≤ cbN ft p m ∧ cbN ft p m ≤ 7 ∧ ft (cbN ft p m) = true ∧ ∀ j, 7 - m < j → j ≤ 7 → ft j = true → prN (cbN ft p m) p < prN j p ∨ (prN (cbN ft p m) p = prN j p ∧ cbN ft p m ≤ j)
  | 0, _ => ⟨by show 1 ≤ 6; decide, by show 6 ≤ 7; decide, h6, fun j h1 h2 => by omega⟩
  | m + 1, hm => by
    obtain ⟨i1, i2, i3, i4⟩ := cbN_ok (p := p) h6 m (by omega)
    rw [cbN]
    by_cases q : ft (7 - m) = true ∧ prN (7 - m) p ≤ prN (cbN ft p m) p
    · rw [if_pos q]
      refine ⟨by omega, by omega, q.1, fun j h1 h2 h3 => ?_⟩
      by_cases e : j = 7 - m
      · subst e; exact Or.inr ⟨rfl, Nat.le_refl _⟩
      · rcases i4 j (by omega) h2 h3 with w | ⟨w1, w2⟩
        · exact Or.inl (by omega)
        · rcases Nat.lt_or_ge (prN (7 - m) p) (prN j p) with z | z
          · exact Or.inl z
          · exact Or.inr ⟨by omega, by omega⟩
    · rw [if_neg q]
      refine ⟨i1, i2, i3, fun j h1 h2 h3 => ?_⟩
      by_cases e : j = 7 - m
      · subst e
        exact Or.inl (Nat.lt_of_not_le (fun w => q ⟨h3, w⟩))
      · exact i4 j (by omega) h2 h3
/-- the class's cheapest kind -/
theorem x_cheap {nT nF nX nC nE nL nS : Nat} {M N : Mem} (h : RS nT nF nX nC nE nL nS M 1 (N 1)) {f p : Nat} {ft : Nat → Bool} (hf : f < nF) (hp : M 7 f = nI p) (hp2 : p < 1000) (hft : ∀ j, j < 8 → ∀ M', Ec M M' → OkC M' (if ft j = true then nI 1 else nI 0) (f_X6_fits 1 (nI f) (nI j) M')) (h6 : ft 6 = true) : ∀ M', Ec M M' → OkC M' (nI (cbN ft p 7)) (f_X6_cheapestKind 1 (nI f) M') := by
  intro M' E
  have f3 : nF ≤ 40 := h.2.1.2.2.1
  unfold f_X6_cheapestKind
  show Res _ _
  refine lo2 (fun n x y M2 => ∃ m, m + n = 7 ∧ x = nI (cbN ft p m) ∧ y = nI (7 - m) ∧ Ec M' M2) ?_ fuel 7 _ _ M' (by decide) ⟨0, by omega, rfl, rfl, Ec.rfl'⟩
  rintro n rc _ _ M2 ⟨m, hm, rfl, rfl, E2⟩ ih
  by_cases hm7 : m = 7
  · subst hm7
    rw [if_pos (by decide)]
    exact Res.mk ⟨rfl, E2⟩
  obtain ⟨i1, i2, i3, i4⟩ := cbN_ok (p := p) h6 m (by omega)
  have hlt : ¬ nI (7 - m) < 1 := nI_nlt (a := 7 - m) (b := 1) (by omega) (by omega)
  have e7 : M2 7 f = nI p := by rw [E2 7 (by decide) (by decide) (by decide) (by decide) (by decide) (by decide), E 7 (by decide) (by decide) (by decide) (by decide) (by decide) (by decide)]; exact hp
  rw [if_neg hlt, vv_e, vv_e, e1_1_0, e1_2_6, ld_i (by omega) (by decide), e7]
  refine OkC.then (hft (7 - m) (by omega) M2 (E.trans E2)) (fun M3 E3 => ?_)
  have b1 := prN_b (7 - m) p hp2
  have b2' := prN_b (cbN ft p m) p hp2
  have es : nI (7 - m) + -1 = nI (7 - (m + 1)) := by
    rw [show (-1 : Int32) = -nI 1 from rfl, ng_add (by omega)]
    exact congrArg nI (by omega)
  cases hq : ft (7 - m) with
  | false =>
    rw [if_neg (show ¬ (false = true) by decide), if_pos (show nI 0 = 0 from rfl), es]
    exact ih (n - 1) _ _ _ (by omega) ⟨m + 1, by omega, by rw [cbN, if_neg (fun w => by rw [hq] at w; cases w.1)], rfl, E2.trans E3⟩
  | true =>
    rw [if_pos rfl, if_neg (show ¬ nI 1 = 0 by decide), x_prN (7 - m) p (by omega) hp2, bd_e, x_prN (cbN ft p m) p (by omega) hp2, bd_e, es]
    by_cases hle : prN (7 - m) p ≤ prN (cbN ft p m) p
    · rw [if_neg (nI_nlt hle (by omega))]
      exact ih (n - 1) _ _ _ (by omega) ⟨m + 1, by omega, by rw [cbN, if_pos ⟨hq, hle⟩], rfl, E2.trans E3⟩
    · rw [if_pos (nI_lt (by omega) (by omega))]
      exact ih (n - 1) _ _ _ (by omega) ⟨m + 1, by omega, by rw [cbN, if_neg (fun w => hle w.2)], rfl, E2.trans E3⟩
