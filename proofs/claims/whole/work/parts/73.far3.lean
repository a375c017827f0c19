theorem l_1e6 : (1000000 : Int32) = nI 1000000 := congrArg Int32.ofNat (Eq.refl 1000000)
theorem dl_ge {inf : Nat} {o : Option Nat} {m : Nat} (h : ∀ x, o = some x → x ≤ m) (hm : m < inf) (hi : inf ≤ 1000000) : (dl inf o < nI inf) = (o.isSome = true) := by
  apply propext
  cases o with
  | none => exact ⟨fun q => absurd q (nI_nlt (Nat.le_refl _) (by omega)), fun q => by cases q⟩
  | some x => exact ⟨fun _ => rfl, fun _ => nI_lt (by have := h x rfl; omega) (by omega)⟩
section
variable {w : Nat → Nat → Nat} {M N : Mem}
theorem x_goOne {d : Nat → Option Nat} {m : Nat} (hr : ∀ a b, a < 6 → b < 6 → w a b ≤ 30 ∧ M 20 (a * 6 + b) = nI (w a b)) (hb : bndO m d) (hm : m + 1080 + 30 < 1000000) (h0 : ∀ c, c < 6 → M 23 c = dl 1000000 (d c)) : Res (fun _ M' => (∀ c, c < 6 → M' 23 c = dl 1000000 (rndN w d 6 c)) ∧ ∀ a, a ≠ 23 → M' a = M a) (f_X2_goOneRoadOn 19 M) := by
  have hw : ∀ a b, a < 6 → b < 6 → w a b ≤ 30 := fun a b ha hb => (hr a b ha hb).1
  unfold f_X2_goOneRoadOn
  refine lo1 (fun n y M' => ∃ a, a + n = 6 ∧ y = nI a ∧ (∀ c, c < 6 → M' 23 c = dl 1000000 (rndN w d a c)) ∧ ∀ q, q ≠ 23 → M' q = M q) ?_ fuel 6 _ M (by decide) ⟨0, by omega, rfl, h0, fun _ _ => rfl⟩
  rintro n rc _ M1 ⟨a, ha, rfl, g1, g2⟩ ih
  by_cases ha6 : a = 6
  · subst ha6
    rw [if_neg (by decide)]
    exact Res.mk ⟨g1, g2⟩
  have hla : nI a < 6 := nI_lt (b := 6) (by omega) (by decide)
  rw [if_pos hla]
  have hba := rndN_bnd hw hb a (by omega)
  refine lo1 (fun n y M' => ∃ b, b + n = 6 ∧ y = nI b ∧ (∀ c, c < 6 → M' 23 c = dl 1000000 (rowN w a (rndN w d a) b c)) ∧ ∀ q, q ≠ 23 → M' q = M q) ?_ fuel 6 _ M1 (by decide) ⟨0, by omega, rfl, g1, g2⟩
  rintro n2 rc2 _ M2 ⟨b, hbn, rfl, k1, k2⟩ ih2
  by_cases hb6 : b = 6
  · subst hb6
    rw [if_neg (by decide), nI_1]
    exact ih (n - 1) _ _ (by omega) ⟨a + 1, by omega, rfl, k1, k2⟩
  obtain ⟨r1, r2⟩ := hr a b (by omega) (by omega)
  have r3 : M2 20 (a * 6 + b) = nI (w a b) := by rw [k2 20 (by decide)]; exact r2
  have hbb := rowN_bnd (a := a) (by omega) hw hba b (by omega)
  have ka := k1 a (by omega)
  have kb := k1 b (by omega)
  by_cases hp : 0 < w a b
  · obtain ⟨v1, -⟩ := rlx_v (inf := 1000000) (a := a) (b := b) hbb (by omega) r1 (Nat.le_refl _) hp
    simp (maxSteps := 1000000) (disch := omega) only [vv_e, mm_e, jn_e, bd_e, bd_i, e1_0_0, e1_0_1, e1_0_3, e1_0_4, e1_0_6, e1_0_7, e1_1_0, e1_1_1, e1_1_2, e1_1_3, e1_1_4, e1_1_5, e1_1_9, e1_2_1, e1_2_3, e1_2_4, e1_2_5, e1_2_6, e1_2_7, e1_9_1, e1_9_2, e1_9_3, e1_9_4, e1_9_5, e1_9_6, e1_16_0, e1_16_1, e1_19_0, e1_19_2, e1_19_3, e1_19_4, e1_24_1, e1_24_2, e1_24_3, e1_24_5, e1_61_0, e1_61_6, ld_i, st_i, la_i, sl_i, nI_add, pk_mul, pk_sub, ng_add, neg_neg_n, nlt, nle, neq, ng_lt, gn_lt, gg_lt, ng_le, gn_le, gg_le, ng_eq, gn_eq, gg_eq, dv_i, if_pos, if_neg, ite_tt, ite_ff, if_b2, if_b2n, l_0, l_1, l_2, l_3, l_4, l_5, l_6, l_7, l_8, l_9, l_10, l_11, l_12, l_13, l_16, l_20, l_24, l_30, l_32, l_33, l_38, l_42, l_43, l_45, l_47, l_48, l_50, l_57, l_60, l_61, l_62, l_96, l_97, l_99, l_100, l_102, l_105, l_110, l_121, l_122, l_124, l_128, l_200, l_255, l_270, l_350, l_360, l_400, l_440, l_490, l_500, l_999, l_1000, l_9999, l_10000, l_99999, l_100000, l_1000000, l_1000000001, l_1000000002, l_1000000003, l_1000000005, l_1000000011, l_1000000012, l_1000000013, l_1000000014, r3, ka, kb]
    refine ih2 (n2 - 1) _ _ (by omega) ⟨b + 1, by omega, rfl, fun c hc => ?_, fun q hq => by rw [up_ne hq]; exact k2 q hq⟩
    rw [rowN]
    by_cases e : c = b
    · subst e
      rw [up_same, v1]
    · rw [up_k _ _ _ _ _ e, rlx_o e]
      exact k1 c hc
  · simp (maxSteps := 1000000) (disch := omega) only [vv_e, mm_e, jn_e, bd_e, bd_i, e1_0_0, e1_0_1, e1_0_3, e1_0_4, e1_0_6, e1_0_7, e1_1_0, e1_1_1, e1_1_2, e1_1_3, e1_1_4, e1_1_5, e1_1_9, e1_2_1, e1_2_3, e1_2_4, e1_2_5, e1_2_6, e1_2_7, e1_9_1, e1_9_2, e1_9_3, e1_9_4, e1_9_5, e1_9_6, e1_16_0, e1_16_1, e1_19_0, e1_19_2, e1_19_3, e1_19_4, e1_24_1, e1_24_2, e1_24_3, e1_24_5, e1_61_0, e1_61_6, ld_i, st_i, la_i, sl_i, nI_add, pk_mul, pk_sub, ng_add, neg_neg_n, nlt, nle, neq, ng_lt, gn_lt, gg_lt, ng_le, gn_le, gg_le, ng_eq, gn_eq, gg_eq, dv_i, if_pos, if_neg, ite_tt, ite_ff, if_b2, if_b2n, l_0, l_1, l_2, l_3, l_4, l_5, l_6, l_7, l_8, l_9, l_10, l_11, l_12, l_13, l_16, l_20, l_24, l_30, l_32, l_33, l_38, l_42, l_43, l_45, l_47, l_48, l_50, l_57, l_60, l_61, l_62, l_96, l_97, l_99, l_100, l_102, l_105, l_110, l_121, l_122, l_124, l_128, l_200, l_255, l_270, l_350, l_360, l_400, l_440, l_490, l_500, l_999, l_1000, l_9999, l_10000, l_99999, l_100000, l_1000000, l_1000000001, l_1000000002, l_1000000003, l_1000000005, l_1000000011, l_1000000012, l_1000000013, l_1000000014, r3]
    refine ih2 (n2 - 1) _ _ (by omega) ⟨b + 1, by omega, rfl, fun c hc => ?_, k2⟩
    rw [rowN]
    by_cases e : c = b
    · subst e
      rw [rlx_0 hp]
      exact k1 c hc
    · rw [rlx_o e]
      exact k1 c hc
/-- what both say of two places -/
def dd (w : Nat → Nat → Nat) (s t : Nat) : Option Nat := allN w s 5 t
theorem x_least {s t : Nat} (hs : s < 6) (ht : t < 6) (hr : ∀ a b, a < 6 → b < 6 → w a b ≤ 30 ∧ M 20 (a * 6 + b) = nI (w a b)) : OkC M (orN (dd w s t)) (f_X2_leastDays 19 (nI s) (nI t) M) := by
  have hw : ∀ a b, a < 6 → b < 6 → w a b ≤ 30 := fun a b ha hb => (hr a b ha hb).1
  unfold f_X2_leastDays
  show Res _ _
  refine lo1 (fun n y M' => ∃ c, c + n = 6 ∧ y = nI c ∧ (∀ j, j < c → M' 23 j = dl 1000000 (allN w s 0 j)) ∧ ∀ q, q ≠ 23 → M' q = M q) ?_ fuel 6 _ M (by decide) ⟨0, by omega, rfl, fun j hj => absurd hj (Nat.not_lt_zero j), fun _ _ => rfl⟩
  rintro n rc _ M1 ⟨c, hc, rfl, g1, g2⟩ ih
  by_cases hc6 : c = 6
  case neg =>
    have fin : ∀ v, v = dl 1000000 (allN w s 0 c) → Res (fun r M' => r = orN (dd w s t) ∧ Ec M M') (rc (nI (c + 1)) (up M1 23 c v)) := fun v hv => by
      refine ih (n - 1) _ _ (by omega) ⟨c + 1, by omega, rfl, fun j hj => ?_, fun q hq => by rw [up_ne hq]; exact g2 q hq⟩
      by_cases e : j = c
      · subst e; rw [up_same]; exact hv
      · rw [up_k _ _ _ _ _ e]; exact g1 j (by omega)
    by_cases e : c = s
    · simp (maxSteps := 1000000) (disch := omega) only [vv_e, mm_e, jn_e, bd_e, bd_i, e1_0_0, e1_0_1, e1_0_3, e1_0_4, e1_0_6, e1_0_7, e1_1_0, e1_1_1, e1_1_2, e1_1_3, e1_1_4, e1_1_5, e1_1_9, e1_2_1, e1_2_3, e1_2_4, e1_2_5, e1_2_6, e1_2_7, e1_9_1, e1_9_2, e1_9_3, e1_9_4, e1_9_5, e1_9_6, e1_16_0, e1_16_1, e1_19_0, e1_19_2, e1_19_3, e1_19_4, e1_24_1, e1_24_2, e1_24_3, e1_24_5, e1_61_0, e1_61_6, ld_i, st_i, la_i, sl_i, nI_add, pk_mul, pk_sub, ng_add, neg_neg_n, nlt, nle, neq, ng_lt, gn_lt, gg_lt, ng_le, gn_le, gg_le, ng_eq, gn_eq, gg_eq, dv_i, if_pos, if_neg, ite_tt, ite_ff, if_b2, if_b2n, l_0, l_1, l_2, l_3, l_4, l_5, l_6, l_7, l_8, l_9, l_10, l_11, l_12, l_13, l_16, l_20, l_24, l_30, l_32, l_33, l_38, l_42, l_43, l_45, l_47, l_48, l_50, l_57, l_60, l_61, l_62, l_96, l_97, l_99, l_100, l_102, l_105, l_110, l_121, l_122, l_124, l_128, l_200, l_255, l_270, l_350, l_360, l_400, l_440, l_490, l_500, l_999, l_1000, l_9999, l_10000, l_99999, l_100000, l_1000000, l_1000000001, l_1000000002, l_1000000003, l_1000000005, l_1000000011, l_1000000012, l_1000000013, l_1000000014]
      exact fin _ (by unfold allN; rw [if_pos e]; rfl)
    · simp (maxSteps := 1000000) (disch := omega) only [vv_e, mm_e, jn_e, bd_e, bd_i, e1_0_0, e1_0_1, e1_0_3, e1_0_4, e1_0_6, e1_0_7, e1_1_0, e1_1_1, e1_1_2, e1_1_3, e1_1_4, e1_1_5, e1_1_9, e1_2_1, e1_2_3, e1_2_4, e1_2_5, e1_2_6, e1_2_7, e1_9_1, e1_9_2, e1_9_3, e1_9_4, e1_9_5, e1_9_6, e1_16_0, e1_16_1, e1_19_0, e1_19_2, e1_19_3, e1_19_4, e1_24_1, e1_24_2, e1_24_3, e1_24_5, e1_61_0, e1_61_6, ld_i, st_i, la_i, sl_i, nI_add, pk_mul, pk_sub, ng_add, neg_neg_n, nlt, nle, neq, ng_lt, gn_lt, gg_lt, ng_le, gn_le, gg_le, ng_eq, gn_eq, gg_eq, dv_i, if_pos, if_neg, ite_tt, ite_ff, if_b2, if_b2n, l_0, l_1, l_2, l_3, l_4, l_5, l_6, l_7, l_8, l_9, l_10, l_11, l_12, l_13, l_16, l_20, l_24, l_30, l_32, l_33, l_38, l_42, l_43, l_45, l_47, l_48, l_50, l_57, l_60, l_61, l_62, l_96, l_97, l_99, l_100, l_102, l_105, l_110, l_121, l_122, l_124, l_128, l_200, l_255, l_270, l_350, l_360, l_400, l_440, l_490, l_500, l_999, l_1000, l_9999, l_10000, l_99999, l_100000, l_1000000, l_1000000001, l_1000000002, l_1000000003, l_1000000005, l_1000000011, l_1000000012, l_1000000013, l_1000000014]
      exact fin _ (by unfold allN; rw [if_neg e]; rfl)
  subst hc6
  rw [if_neg (by decide)]
  refine lo1 (fun n y M' => ∃ k, k + n = 5 ∧ y = nI (k + 1) ∧ (∀ j, j < 6 → M' 23 j = dl 1000000 (allN w s k j)) ∧ ∀ q, q ≠ 23 → M' q = M q) ?_ fuel 5 _ M1 (by decide) ⟨0, by omega, rfl, g1, g2⟩
  rintro n2 rc2 _ M2 ⟨k, hk, rfl, k1, k2⟩ ih2
  by_cases hk5 : k = 5
  case neg =>
    have hlk : nI (k + 1) < 6 := nI_lt (b := 6) (by omega) (by decide)
    rw [if_pos hlk]
    refine Res.then (x_goOne (M := M2) (w := w) (fun a b ha hb => ⟨hw a b ha hb, by rw [k2 20 (by decide)]; exact (hr a b ha hb).2⟩) (allN_bnd (s := s) hw k) (by omega) k1) (fun r M3 q => ?_)
    rw [nI_1]
    exact ih2 (n2 - 1) _ _ (by omega) ⟨k + 1, by omega, rfl, q.1, fun a ha => (q.2 a ha).trans (k2 a ha)⟩
  subst hk5
  rw [if_neg (by decide)]
  have kt := k1 t ht
  have hbt := allN_bnd (s := s) hw 5 t
  have ec : Ec M M2 := fun a _ h2 _ _ _ _ => k2 a h2
  cases hd : allN w s 5 t with
  | none =>
    rw [hd] at kt
    have kt' : M2 23 t = nI 1000000 := kt
    simp (maxSteps := 1000000) (disch := omega) only [vv_e, mm_e, jn_e, bd_e, bd_i, e1_0_0, e1_0_1, e1_0_3, e1_0_4, e1_0_6, e1_0_7, e1_1_0, e1_1_1, e1_1_2, e1_1_3, e1_1_4, e1_1_5, e1_1_9, e1_2_1, e1_2_3, e1_2_4, e1_2_5, e1_2_6, e1_2_7, e1_9_1, e1_9_2, e1_9_3, e1_9_4, e1_9_5, e1_9_6, e1_16_0, e1_16_1, e1_19_0, e1_19_2, e1_19_3, e1_19_4, e1_24_1, e1_24_2, e1_24_3, e1_24_5, e1_61_0, e1_61_6, ld_i, st_i, la_i, sl_i, nI_add, pk_mul, pk_sub, ng_add, neg_neg_n, nlt, nle, neq, ng_lt, gn_lt, gg_lt, ng_le, gn_le, gg_le, ng_eq, gn_eq, gg_eq, dv_i, if_pos, if_neg, ite_tt, ite_ff, if_b2, if_b2n, l_0, l_1, l_2, l_3, l_4, l_5, l_6, l_7, l_8, l_9, l_10, l_11, l_12, l_13, l_16, l_20, l_24, l_30, l_32, l_33, l_38, l_42, l_43, l_45, l_47, l_48, l_50, l_57, l_60, l_61, l_62, l_96, l_97, l_99, l_100, l_102, l_105, l_110, l_121, l_122, l_124, l_128, l_200, l_255, l_270, l_350, l_360, l_400, l_440, l_490, l_500, l_999, l_1000, l_9999, l_10000, l_99999, l_100000, l_1000000, l_1000000001, l_1000000002, l_1000000003, l_1000000005, l_1000000011, l_1000000012, l_1000000013, l_1000000014, kt']
    exact Res.mk ⟨by unfold dd; rw [hd]; rfl, ec⟩
  | some x =>
    have hx := hbt x hd
    rw [hd] at kt
    have kt' : M2 23 t = nI x := kt
    simp (maxSteps := 1000000) (disch := omega) only [vv_e, mm_e, jn_e, bd_e, bd_i, e1_0_0, e1_0_1, e1_0_3, e1_0_4, e1_0_6, e1_0_7, e1_1_0, e1_1_1, e1_1_2, e1_1_3, e1_1_4, e1_1_5, e1_1_9, e1_2_1, e1_2_3, e1_2_4, e1_2_5, e1_2_6, e1_2_7, e1_9_1, e1_9_2, e1_9_3, e1_9_4, e1_9_5, e1_9_6, e1_16_0, e1_16_1, e1_19_0, e1_19_2, e1_19_3, e1_19_4, e1_24_1, e1_24_2, e1_24_3, e1_24_5, e1_61_0, e1_61_6, ld_i, st_i, la_i, sl_i, nI_add, pk_mul, pk_sub, ng_add, neg_neg_n, nlt, nle, neq, ng_lt, gn_lt, gg_lt, ng_le, gn_le, gg_le, ng_eq, gn_eq, gg_eq, dv_i, if_pos, if_neg, ite_tt, ite_ff, if_b2, if_b2n, l_0, l_1, l_2, l_3, l_4, l_5, l_6, l_7, l_8, l_9, l_10, l_11, l_12, l_13, l_16, l_20, l_24, l_30, l_32, l_33, l_38, l_42, l_43, l_45, l_47, l_48, l_50, l_57, l_60, l_61, l_62, l_96, l_97, l_99, l_100, l_102, l_105, l_110, l_121, l_122, l_124, l_128, l_200, l_255, l_270, l_350, l_360, l_400, l_440, l_490, l_500, l_999, l_1000, l_9999, l_10000, l_99999, l_100000, l_1000000, l_1000000001, l_1000000002, l_1000000003, l_1000000005, l_1000000011, l_1000000012, l_1000000013, l_1000000014, kt']
    exact Res.mk ⟨by unfold dd; rw [hd]; rfl, ec⟩
theorem y_days {s t : Nat} (hs : s < 6) (ht : t < 6) (hr : ∀ a b, a < 6 → b < 6 → w a b ≤ 30 ∧ N 1 (360 + 6 * a + b) = nI (w a b)) : OkM N (orM (dd w s t)) (f_X10_daysFrom 0 (nI s) (nI t) N) := by
  have hw : ∀ a b, a < 6 → b < 6 → w a b ≤ 30 := fun a b ha hb => (hr a b ha hb).1
  have est := (stable (w := w) hs).1 t ht
  unfold f_X10_daysFrom
  show Res _ _
  refine lo1 (fun n y N' => ∃ c, c + n = 6 ∧ y = nI c ∧ (∀ j, j < c → N' 18 j = dl 100000 (allN w s 0 j)) ∧ ∀ q, q ≠ 18 → N' q = N q) ?_ fuel 6 _ N (by decide) ⟨0, by omega, rfl, fun j hj => absurd hj (Nat.not_lt_zero j), fun _ _ => rfl⟩
  rintro n rc _ N1 ⟨c, hc, rfl, g1, g2⟩ ih
  by_cases hc6 : c = 6
  case neg =>
    have fin : ∀ v, v = dl 100000 (allN w s 0 c) → Res (fun r M' => r = orM (dd w s t) ∧ Em N M') (rc (nI (c + 1)) (up N1 18 c v)) := fun v hv => by
      refine ih (n - 1) _ _ (by omega) ⟨c + 1, by omega, rfl, fun j hj => ?_, fun q hq => by rw [up_ne hq]; exact g2 q hq⟩
      by_cases e : j = c
      · subst e; rw [up_same]; exact hv
      · rw [up_k _ _ _ _ _ e]; exact g1 j (by omega)
    have hlc : nI c < 6 := nI_lt (b := 6) (by omega) (by decide)
    rw [if_pos hlc]
    by_cases e : c = s
    · simp (maxSteps := 1000000) (disch := omega) only [vv_e, mm_e, jn_e, bd_e, bd_i, e2_0_0, e2_0_1, e2_0_2, e2_0_4, e2_0_5, e2_0_6, e2_0_7, e2_0_8, e2_0_9, e2_0_10, e2_0_11, e2_0_12, e2_0_24, e2_0_25, e2_0_28, e2_0_29, e2_0_30, e2_0_34, e2_0_35, e2_0_36, e2_0_38, ld_i, st_i, la_i, sl_i, nI_add, pk_mul, pk_sub, ng_add, neg_neg_n, nlt, nle, neq, ng_lt, gn_lt, gg_lt, ng_le, gn_le, gg_le, ng_eq, gn_eq, gg_eq, dv_i, if_pos, if_neg, ite_tt, ite_ff, if_b2, if_b2n, l_0, l_1, l_2, l_3, l_4, l_5, l_6, l_7, l_8, l_9, l_10, l_11, l_12, l_13, l_16, l_20, l_24, l_30, l_32, l_33, l_38, l_42, l_43, l_45, l_47, l_48, l_50, l_57, l_60, l_61, l_62, l_96, l_97, l_99, l_100, l_102, l_105, l_110, l_121, l_122, l_124, l_128, l_200, l_255, l_270, l_350, l_360, l_400, l_440, l_490, l_500, l_999, l_1000, l_9999, l_10000, l_99999, l_100000, l_1000000, l_1000000001, l_1000000002, l_1000000003, l_1000000005, l_1000000011, l_1000000012, l_1000000013, l_1000000014]
      exact fin _ (by unfold allN; rw [if_pos e]; rfl)
    · simp (maxSteps := 1000000) (disch := omega) only [vv_e, mm_e, jn_e, bd_e, bd_i, e2_0_0, e2_0_1, e2_0_2, e2_0_4, e2_0_5, e2_0_6, e2_0_7, e2_0_8, e2_0_9, e2_0_10, e2_0_11, e2_0_12, e2_0_24, e2_0_25, e2_0_28, e2_0_29, e2_0_30, e2_0_34, e2_0_35, e2_0_36, e2_0_38, ld_i, st_i, la_i, sl_i, nI_add, pk_mul, pk_sub, ng_add, neg_neg_n, nlt, nle, neq, ng_lt, gn_lt, gg_lt, ng_le, gn_le, gg_le, ng_eq, gn_eq, gg_eq, dv_i, if_pos, if_neg, ite_tt, ite_ff, if_b2, if_b2n, l_0, l_1, l_2, l_3, l_4, l_5, l_6, l_7, l_8, l_9, l_10, l_11, l_12, l_13, l_16, l_20, l_24, l_30, l_32, l_33, l_38, l_42, l_43, l_45, l_47, l_48, l_50, l_57, l_60, l_61, l_62, l_96, l_97, l_99, l_100, l_102, l_105, l_110, l_121, l_122, l_124, l_128, l_200, l_255, l_270, l_350, l_360, l_400, l_440, l_490, l_500, l_999, l_1000, l_9999, l_10000, l_99999, l_100000, l_1000000, l_1000000001, l_1000000002, l_1000000003, l_1000000005, l_1000000011, l_1000000012, l_1000000013, l_1000000014]
      exact fin _ (by unfold allN; rw [if_neg e]; rfl)
  subst hc6
  rw [if_neg (by decide)]
  refine lo1 (fun n y N' => ∃ k, k + n = 6 ∧ y = nI k ∧ (∀ j, j < 6 → N' 18 j = dl 100000 (allN w s k j)) ∧ ∀ q, q ≠ 18 → N' q = N q) ?_ fuel 6 _ N1 (by decide) ⟨0, by omega, rfl, g1, g2⟩
  rintro n2 rc2 _ N2 ⟨k, hk, rfl, k1, k2⟩ ih2
  by_cases hk6 : k = 6
  case neg =>
    have hlk : nI k < 6 := nI_lt (b := 6) (by omega) (by decide)
    have hbk := allN_bnd (s := s) hw k
    rw [if_pos hlk]
    refine lo1 (fun n y N' => ∃ a, a + n = 6 ∧ y = nI a ∧ (∀ c, c < 6 → N' 18 c = dl 100000 (rndN w (allN w s k) a c)) ∧ ∀ q, q ≠ 18 → N' q = N q) ?_ fuel 6 _ N2 (by decide) ⟨0, by omega, rfl, k1, k2⟩
    rintro n3 rc3 _ N3 ⟨a, ha, rfl, l1, l2⟩ ih3
    by_cases ha6 : a = 6
    · subst ha6
      rw [if_neg (by decide), nI_1]
      exact ih2 (n2 - 1) _ _ (by omega) ⟨k + 1, by omega, rfl, l1, l2⟩
    have hla : nI a < 6 := nI_lt (b := 6) (by omega) (by decide)
    have hba := rndN_bnd hw hbk a (by omega)
    rw [if_pos hla]
    refine lo1 (fun n y N' => ∃ b, b + n = 6 ∧ y = nI b ∧ (∀ c, c < 6 → N' 18 c = dl 100000 (rowN w a (rndN w (allN w s k) a) b c)) ∧ ∀ q, q ≠ 18 → N' q = N q) ?_ fuel 6 _ N3 (by decide) ⟨0, by omega, rfl, l1, l2⟩
    rintro n4 rc4 _ N4 ⟨b, hbn, rfl, m1, m2⟩ ih4
    by_cases hb6 : b = 6
    · subst hb6
      rw [if_neg (by decide), nI_1]
      exact ih3 (n3 - 1) _ _ (by omega) ⟨a + 1, by omega, rfl, m1, m2⟩
    obtain ⟨r1, r2⟩ := hr a b (by omega) (by omega)
    have r3 : N4 1 (360 + 6 * a + b) = nI (w a b) := by rw [m2 1 (by decide)]; exact r2
    have hbb := rowN_bnd (a := a) (by omega) hw hba b (by omega)
    have ka := m1 a (by omega)
    have kb := m1 b (by omega)
    have fin : ∀ v, v = dl 100000 (rlx w a b (rowN w a (rndN w (allN w s k) a) b) b) → Res (fun r M' => r = orM (dd w s t) ∧ Em N M') (rc4 (nI (b + 1)) (up N4 18 b v)) := fun v hv => by
      refine ih4 (n4 - 1) _ _ (by omega) ⟨b + 1, by omega, rfl, fun c hc => ?_, fun q hq => by rw [up_ne hq]; exact m2 q hq⟩
      rw [rowN]
      by_cases e : c = b
      · subst e
        rw [up_same, hv]
      · rw [up_k _ _ _ _ _ e, rlx_o e]
        exact m1 c hc
    by_cases hp : 0 < w a b
    · obtain ⟨-, v2⟩ := rlx_v (inf := 100000) (a := a) (b := b) hbb (by omega) r1 (by decide) hp
      unfold f_X10_least
      simp (maxSteps := 1000000) (disch := omega) only [vv_e, mm_e, jn_e, bd_e, bd_i, e2_0_0, e2_0_1, e2_0_2, e2_0_4, e2_0_5, e2_0_6, e2_0_7, e2_0_8, e2_0_9, e2_0_10, e2_0_11, e2_0_12, e2_0_24, e2_0_25, e2_0_28, e2_0_29, e2_0_30, e2_0_34, e2_0_35, e2_0_36, e2_0_38, ld_i, st_i, la_i, sl_i, nI_add, pk_mul, pk_sub, ng_add, neg_neg_n, nlt, nle, neq, ng_lt, gn_lt, gg_lt, ng_le, gn_le, gg_le, ng_eq, gn_eq, gg_eq, dv_i, if_pos, if_neg, ite_tt, ite_ff, if_b2, if_b2n, l_0, l_1, l_2, l_3, l_4, l_5, l_6, l_7, l_8, l_9, l_10, l_11, l_12, l_13, l_16, l_20, l_24, l_30, l_32, l_33, l_38, l_42, l_43, l_45, l_47, l_48, l_50, l_57, l_60, l_61, l_62, l_96, l_97, l_99, l_100, l_102, l_105, l_110, l_121, l_122, l_124, l_128, l_200, l_255, l_270, l_350, l_360, l_400, l_440, l_490, l_500, l_999, l_1000, l_9999, l_10000, l_99999, l_100000, l_1000000, l_1000000001, l_1000000002, l_1000000003, l_1000000005, l_1000000011, l_1000000012, l_1000000013, l_1000000014, r3, ka, kb]
      by_cases hlt : dl 100000 (rowN w a (rndN w (allN w s k) a) b b) < dl 100000 (rowN w a (rndN w (allN w s k) a) b a) + nI (w a b)
      · rw [if_pos hlt] at v2
        rw [if_pos hlt]
        exact fin _ v2
      · rw [if_neg hlt] at v2
        rw [if_neg hlt]
        exact fin _ v2
    · simp (maxSteps := 1000000) (disch := omega) only [vv_e, mm_e, jn_e, bd_e, bd_i, e2_0_0, e2_0_1, e2_0_2, e2_0_4, e2_0_5, e2_0_6, e2_0_7, e2_0_8, e2_0_9, e2_0_10, e2_0_11, e2_0_12, e2_0_24, e2_0_25, e2_0_28, e2_0_29, e2_0_30, e2_0_34, e2_0_35, e2_0_36, e2_0_38, ld_i, st_i, la_i, sl_i, nI_add, pk_mul, pk_sub, ng_add, neg_neg_n, nlt, nle, neq, ng_lt, gn_lt, gg_lt, ng_le, gn_le, gg_le, ng_eq, gn_eq, gg_eq, dv_i, if_pos, if_neg, ite_tt, ite_ff, if_b2, if_b2n, l_0, l_1, l_2, l_3, l_4, l_5, l_6, l_7, l_8, l_9, l_10, l_11, l_12, l_13, l_16, l_20, l_24, l_30, l_32, l_33, l_38, l_42, l_43, l_45, l_47, l_48, l_50, l_57, l_60, l_61, l_62, l_96, l_97, l_99, l_100, l_102, l_105, l_110, l_121, l_122, l_124, l_128, l_200, l_255, l_270, l_350, l_360, l_400, l_440, l_490, l_500, l_999, l_1000, l_9999, l_10000, l_99999, l_100000, l_1000000, l_1000000001, l_1000000002, l_1000000003, l_1000000005, l_1000000011, l_1000000012, l_1000000013, l_1000000014, r3, kb]
      exact fin _ (by rw [rlx_0 hp])
  subst hk6
  rw [if_neg (by decide)]
  have kt := k1 t ht
  have hbt := allN_bnd (s := s) hw 6 t
  have ec : Em N N2 := ⟨fun a ha => k2 a (by omega), by rw [k2 0 (by decide)], by rw [k2 0 (by decide)], by rw [k2 0 (by decide)]⟩
  cases hd : allN w s 6 t with
  | none =>
    rw [hd] at kt est
    have kt' : N2 18 t = nI 100000 := kt
    simp (maxSteps := 1000000) (disch := omega) only [vv_e, mm_e, jn_e, bd_e, bd_i, e2_0_0, e2_0_1, e2_0_2, e2_0_4, e2_0_5, e2_0_6, e2_0_7, e2_0_8, e2_0_9, e2_0_10, e2_0_11, e2_0_12, e2_0_24, e2_0_25, e2_0_28, e2_0_29, e2_0_30, e2_0_34, e2_0_35, e2_0_36, e2_0_38, ld_i, st_i, la_i, sl_i, nI_add, pk_mul, pk_sub, ng_add, neg_neg_n, nlt, nle, neq, ng_lt, gn_lt, gg_lt, ng_le, gn_le, gg_le, ng_eq, gn_eq, gg_eq, dv_i, if_pos, if_neg, ite_tt, ite_ff, if_b2, if_b2n, l_0, l_1, l_2, l_3, l_4, l_5, l_6, l_7, l_8, l_9, l_10, l_11, l_12, l_13, l_16, l_20, l_24, l_30, l_32, l_33, l_38, l_42, l_43, l_45, l_47, l_48, l_50, l_57, l_60, l_61, l_62, l_96, l_97, l_99, l_100, l_102, l_105, l_110, l_121, l_122, l_124, l_128, l_200, l_255, l_270, l_350, l_360, l_400, l_440, l_490, l_500, l_999, l_1000, l_9999, l_10000, l_99999, l_100000, l_1000000, l_1000000001, l_1000000002, l_1000000003, l_1000000005, l_1000000011, l_1000000012, l_1000000013, l_1000000014, kt']
    exact Res.mk ⟨by unfold dd; rw [← est]; rfl, ec⟩
  | some x =>
    have hx := hbt x hd
    rw [hd] at kt est
    have kt' : N2 18 t = nI x := kt
    simp (maxSteps := 1000000) (disch := omega) only [vv_e, mm_e, jn_e, bd_e, bd_i, e2_0_0, e2_0_1, e2_0_2, e2_0_4, e2_0_5, e2_0_6, e2_0_7, e2_0_8, e2_0_9, e2_0_10, e2_0_11, e2_0_12, e2_0_24, e2_0_25, e2_0_28, e2_0_29, e2_0_30, e2_0_34, e2_0_35, e2_0_36, e2_0_38, ld_i, st_i, la_i, sl_i, nI_add, pk_mul, pk_sub, ng_add, neg_neg_n, nlt, nle, neq, ng_lt, gn_lt, gg_lt, ng_le, gn_le, gg_le, ng_eq, gn_eq, gg_eq, dv_i, if_pos, if_neg, ite_tt, ite_ff, if_b2, if_b2n, l_0, l_1, l_2, l_3, l_4, l_5, l_6, l_7, l_8, l_9, l_10, l_11, l_12, l_13, l_16, l_20, l_24, l_30, l_32, l_33, l_38, l_42, l_43, l_45, l_47, l_48, l_50, l_57, l_60, l_61, l_62, l_96, l_97, l_99, l_100, l_102, l_105, l_110, l_121, l_122, l_124, l_128, l_200, l_255, l_270, l_350, l_360, l_400, l_440, l_490, l_500, l_999, l_1000, l_9999, l_10000, l_99999, l_100000, l_1000000, l_1000000001, l_1000000002, l_1000000003, l_1000000005, l_1000000011, l_1000000012, l_1000000013, l_1000000014, kt']
    exact Res.mk ⟨by unfold dd; rw [← est]; rfl, ec⟩
end
theorem roads {M N : Mem} (hR : RR (M 20) (N 1)) : ∃ w : Nat → Nat → Nat, (∀ a b, a < 6 → b < 6 → w a b ≤ 30 ∧ M 20 (a * 6 + b) = nI (w a b)) ∧ (∀ a b, a < 6 → b < 6 → w a b ≤ 30 ∧ N 1 (360 + 6 * a + b) = nI (w a b)) ∧ ∀ a b, a < 6 → b < 6 → w a b = w b a := by
  obtain ⟨h1, h2⟩ := hR
  have hw : ∀ i, ∃ v, i < 36 → v ≤ 30 ∧ M 20 i = nI v := fun i => by
    by_cases hi : i < 36
    · obtain ⟨-, v, hv, e⟩ := h1 i hi
      exact ⟨v, fun _ => ⟨by omega, e⟩⟩
    · exact ⟨0, fun q => absurd q hi⟩
  obtain ⟨W, hW⟩ := Classical.axiomOfChoice hw
  refine ⟨fun a b => W (6 * a + b), fun a b ha hb => ?_, fun a b ha hb => ?_, fun a b ha hb => ?_⟩
  · obtain ⟨q1, q2⟩ := hW (6 * a + b) (by omega)
    exact ⟨q1, by rw [show a * 6 + b = 6 * a + b by omega]; exact q2⟩
  · obtain ⟨q1, q2⟩ := hW (6 * a + b) (by omega)
    exact ⟨q1, by rw [show 360 + 6 * a + b = 360 + (6 * a + b) by omega, (h1 (6 * a + b) (by omega)).1]; exact q2⟩
  · show W (6 * a + b) = W (6 * b + a)
    have e := h2 a b ha hb
    obtain ⟨q1, q2⟩ := hW (6 * a + b) (by omega)
    obtain ⟨q3, q4⟩ := hW (6 * b + a) (by omega)
    rw [q2, q4] at e
    exact (nI_eq (by omega) (by omega)).mp e
theorem op_far : ∀ (p q : Int32) (M N : Mem), Inv M N → Same (f_X9_far 0 p q M) (f_X10_far 0 p q N) := by
  intro p q M N h
  obtain ⟨nT, nF, nX, nC, nE, nL, nS, hS, hT, hF, hX, hL, hC, hR, hD, hN, hO, hZ⟩ := h.st
  obtain ⟨w, w1, w2, w3⟩ := roads hR
  unfold f_X9_far f_X10_far
  simp only [vv_e, mm_e, jn_e, bd_e, bd_i, e1_0_0, e1_0_1, e1_0_3, e1_0_4, e1_0_6, e1_0_7, e1_1_0, e1_1_1, e1_1_2, e1_1_3, e1_1_4, e1_1_5, e1_1_9, e1_2_1, e1_2_3, e1_2_4, e1_2_5, e1_2_6, e1_2_7, e1_9_1, e1_9_2, e1_9_3, e1_9_4, e1_9_5, e1_9_6, e1_16_0, e1_16_1, e1_19_0, e1_19_2, e1_19_3, e1_19_4, e1_24_1, e1_24_2, e1_24_3, e1_24_5, e1_61_0, e1_61_6, s_isPlace, y_isPlace, if_b2]
  by_cases hp : 0 ≤ p ∧ p ≤ 5
  case neg =>
    rw [if_neg hp, if_neg hp]
    exact Same.mk h
  rw [if_pos hp, if_pos hp]
  by_cases hq : 0 ≤ q ∧ q ≤ 5
  case neg =>
    rw [if_neg hq, if_neg hq]
    exact Same.mk h
  rw [if_pos hq, if_pos hq]
  obtain ⟨s, hs, rfl⟩ := rgN (c := 5) (by decide) hp
  obtain ⟨t, ht, rfl⟩ := rgN (c := 5) (by decide) hq
  obtain ⟨M', e1, E1⟩ := (x_least (s := s) (t := t) (by omega) (by omega) w1).v
  obtain ⟨N', e2, E2⟩ := (y_days (s := s) (t := t) (by omega) (by omega) w2).v
  have hb : ∀ x, dd w s t = some x → x < 2 ^ 31 := fun x hx => by
    have := allN_bnd (s := s) (fun a b ha hb => (w1 a b ha hb).1) 5 t x hx
    omega
  rw [e1, bd_e, e2, bd_e, y_orNone _ hb, bd_e]
  exact Same.mk (h.ee E1 E2)
