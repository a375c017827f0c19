/-! runs -/
def rl (a : Nat → Nat) : Nat → Nat
  | 0 => 1
  | j + 1 => if a (j + 1) = a j then rl a j + 1 else 1
def firstT (f : Nat → Nat) (k : Nat) : Nat → Option Nat
  | 0 => none
  | n + 1 => match firstT f k n with
    | some j => some j
    | none => if k ≤ f n then some n else none
theorem rl_le (a : Nat → Nat) : ∀ j, rl a j ≤ j + 1 ∧ 1 ≤ rl a j
  | 0 => by rw [rl]; omega
  | j + 1 => by
    rw [rl]
    have := rl_le a j
    split <;> omega
theorem firstT_some {f : Nat → Nat} {k j : Nat} : ∀ n, firstT f k n = some j → j < n ∧ k ≤ f j ∧ ∀ i, i < j → f i < k
  | 0, h => by cases h
  | n + 1, h => by
    rw [firstT] at h
    cases e : firstT f k n with
    | some j' =>
      rw [e] at h
      cases h
      obtain ⟨h1, h2, h3⟩ := firstT_some n e
      exact ⟨by omega, h2, h3⟩
    | none =>
      rw [e] at h
      dsimp only at h
      by_cases hk : k ≤ f n
      · rw [if_pos hk] at h
        cases h
        refine ⟨by omega, hk, fun i hi => Nat.lt_of_not_le (fun w => ?_)⟩
        have : ∀ m, i < m → firstT f k m ≠ none := by
          intro m
          induction m with
          | zero => intro h; omega
          | succ m ih =>
            intro him hm
            rw [firstT] at hm
            cases e2 : firstT f k m with
            | some j' => rw [e2] at hm; cases hm
            | none =>
              rw [e2] at hm
              dsimp only at hm
              by_cases him2 : i < m
              · exact ih him2 e2
              · have : i = m := by omega
                subst this
                rw [if_pos w] at hm
                cases hm
        exact this _ hi e
      · rw [if_neg hk] at h
        cases h
theorem firstT_none {f : Nat → Nat} {k : Nat} : ∀ n, firstT f k n = none → ∀ i, i < n → f i < k
  | 0, _, i, hi => absurd hi (Nat.not_lt_zero i)
  | n + 1, h, i, hi => by
    rw [firstT] at h
    cases e : firstT f k n with
    | some j' => rw [e] at h; cases h
    | none =>
      rw [e] at h
      dsimp only at h
      by_cases hk : k ≤ f n
      · rw [if_pos hk] at h; cases h
      · by_cases hin : i = n
        · subst hin; omega
        · exact firstT_none n e i (by omega)
theorem firstT_of {f : Nat → Nat} {k j n : Nat} (h1 : j < n) (h2 : k ≤ f j) (h3 : ∀ i, i < j → f i < k) : firstT f k n = some j := by
  cases e : firstT f k n with
  | none => exact absurd (firstT_none n e j h1) (by omega)
  | some j' =>
    obtain ⟨a1, a2, a3⟩ := firstT_some n e
    rcases Nat.lt_trichotomy j j' with q | q | q
    · have := a3 j q; omega
    · rw [q]
    · have := h3 j' q; omega
def ps (f : Nat → Nat) : Nat → Nat
  | 0 => 0
  | k + 1 => if mxw f k < f k then k else ps f k
theorem mxw_ge {f : Nat → Nat} : ∀ n i, i < n → f i ≤ mxw f n
  | 0, i, h => by omega
  | n + 1, i, h => by
    rw [mxw]
    by_cases e : i = n
    · subst e; split <;> omega
    · have := mxw_ge (f := f) n i (by omega)
      split <;> omega
theorem ps_ok {f : Nat → Nat} (hf : ∀ j, 1 ≤ f j) : ∀ n, 0 < n → ps f n < n ∧ f (ps f n) = mxw f n ∧ ∀ i, i < ps f n → f i < mxw f n
  | 0, h => by omega
  | n + 1, _ => by
    rw [ps, mxw]
    by_cases e : mxw f n < f n
    · rw [if_pos e, if_pos e]
      exact ⟨by omega, rfl, fun i hi => Nat.lt_of_le_of_lt (mxw_ge n i hi) e⟩
    · rw [if_neg e, if_neg e]
      by_cases h0 : n = 0
      · subst h0
        have := hf 0
        rw [mxw] at e
        omega
      · obtain ⟨h1, h2, h3⟩ := ps_ok hf n (by omega)
        exact ⟨by omega, h2, h3⟩
theorem mxw_first {f : Nat → Nat} (hf : ∀ j, 1 ≤ f j) {n : Nat} (hn : 0 < n) : firstT f (mxw f n) n = some (ps f n) := by
  obtain ⟨h1, h2, h3⟩ := ps_ok hf n hn
  exact firstT_of h1 (by omega) h3
theorem first_mx {f : Nat → Nat} (hf : ∀ j, 1 ≤ f j) {n k : Nat} (hk : 0 < k) : (firstT f k n = none) ↔ mxw f n < k := by
  constructor
  · intro h
    by_cases hn : n = 0
    · subst hn; exact hk
    · obtain ⟨h1, h2, h3⟩ := ps_ok hf n (by omega)
      have := firstT_none n h _ h1
      omega
  · intro h
    cases e : firstT f k n with
    | none => rfl
    | some j =>
      obtain ⟨a1, a2, a3⟩ := firstT_some n e
      have := mxw_ge (f := f) n j a1
      omega
def cutN (p : Nat) : Nat := if p = 4 then 1 else if p = 3 then 10 else if p = 2 then 100 else 1000
theorem cutN_b (p : Nat) : 0 < cutN p ∧ cutN p ≤ 1000 := by
  unfold cutN
  split
  · omega
  split
  · omega
  split <;> omega
theorem cutsN : ∀ p, 1 ≤ p → p ≤ 4 → cutsF p = nI (cutN p) := by
  intro p h1 h2
  rcases (show p = 1 ∨ p = 2 ∨ p = 3 ∨ p = 4 by omega) with rfl | rfl | rfl | rfl <;> rfl
theorem y_placed (v p : Nat) (hv : v < 10000) (h1 : 1 ≤ p) (h2 : p ≤ 4) (M : Mem) : f_X10_placed (nI v) (nI p) M = some (nI (v / cutN p), M) := by
  unfold f_X10_placed cutN
  rcases (show p = 1 ∨ p = 2 ∨ p = 3 ∨ p = 4 by omega) with rfl | rfl | rfl | rfl
  · simp (maxSteps := 1000000) (disch := omega) only [ld_i, st_i, la_i, sl_i, nI_add, pk_mul, pk_sub, ng_add, neg_neg_n, nlt, nle, neq, ng_lt, gn_lt, gg_lt, ng_le, gn_le, gg_le, ng_eq, gn_eq, gg_eq, dv_i, if_pos, if_neg, ite_tt, ite_ff, if_b2, if_b2n, l_0, l_1, l_2, l_3, l_4, l_5, l_6, l_7, l_8, l_9, l_10, l_11, l_12, l_13, l_16, l_20, l_24, l_30, l_32, l_33, l_38, l_42, l_43, l_45, l_47, l_48, l_50, l_57, l_60, l_61, l_62, l_96, l_97, l_99, l_100, l_102, l_105, l_110, l_121, l_122, l_124, l_128, l_200, l_255, l_270, l_350, l_360, l_400, l_440, l_490, l_500, l_999, l_1000, l_9999, l_10000, l_99999, l_100000, l_1000000, l_1000000001, l_1000000002, l_1000000003, l_1000000005, l_1000000011, l_1000000012, l_1000000013, l_1000000014, pk_div]
  · simp (maxSteps := 1000000) (disch := omega) only [ld_i, st_i, la_i, sl_i, nI_add, pk_mul, pk_sub, ng_add, neg_neg_n, nlt, nle, neq, ng_lt, gn_lt, gg_lt, ng_le, gn_le, gg_le, ng_eq, gn_eq, gg_eq, dv_i, if_pos, if_neg, ite_tt, ite_ff, if_b2, if_b2n, l_0, l_1, l_2, l_3, l_4, l_5, l_6, l_7, l_8, l_9, l_10, l_11, l_12, l_13, l_16, l_20, l_24, l_30, l_32, l_33, l_38, l_42, l_43, l_45, l_47, l_48, l_50, l_57, l_60, l_61, l_62, l_96, l_97, l_99, l_100, l_102, l_105, l_110, l_121, l_122, l_124, l_128, l_200, l_255, l_270, l_350, l_360, l_400, l_440, l_490, l_500, l_999, l_1000, l_9999, l_10000, l_99999, l_100000, l_1000000, l_1000000001, l_1000000002, l_1000000003, l_1000000005, l_1000000011, l_1000000012, l_1000000013, l_1000000014, pk_div]
  · simp (maxSteps := 1000000) (disch := omega) only [ld_i, st_i, la_i, sl_i, nI_add, pk_mul, pk_sub, ng_add, neg_neg_n, nlt, nle, neq, ng_lt, gn_lt, gg_lt, ng_le, gn_le, gg_le, ng_eq, gn_eq, gg_eq, dv_i, if_pos, if_neg, ite_tt, ite_ff, if_b2, if_b2n, l_0, l_1, l_2, l_3, l_4, l_5, l_6, l_7, l_8, l_9, l_10, l_11, l_12, l_13, l_16, l_20, l_24, l_30, l_32, l_33, l_38, l_42, l_43, l_45, l_47, l_48, l_50, l_57, l_60, l_61, l_62, l_96, l_97, l_99, l_100, l_102, l_105, l_110, l_121, l_122, l_124, l_128, l_200, l_255, l_270, l_350, l_360, l_400, l_440, l_490, l_500, l_999, l_1000, l_9999, l_10000, l_99999, l_100000, l_1000000, l_1000000001, l_1000000002, l_1000000003, l_1000000005, l_1000000011, l_1000000012, l_1000000013, l_1000000014, pk_div]
  · simp (maxSteps := 1000000) (disch := omega) only [ld_i, st_i, la_i, sl_i, nI_add, pk_mul, pk_sub, ng_add, neg_neg_n, nlt, nle, neq, ng_lt, gn_lt, gg_lt, ng_le, gn_le, gg_le, ng_eq, gn_eq, gg_eq, dv_i, if_pos, if_neg, ite_tt, ite_ff, if_b2, if_b2n, l_0, l_1, l_2, l_3, l_4, l_5, l_6, l_7, l_8, l_9, l_10, l_11, l_12, l_13, l_16, l_20, l_24, l_30, l_32, l_33, l_38, l_42, l_43, l_45, l_47, l_48, l_50, l_57, l_60, l_61, l_62, l_96, l_97, l_99, l_100, l_102, l_105, l_110, l_121, l_122, l_124, l_128, l_200, l_255, l_270, l_350, l_360, l_400, l_440, l_490, l_500, l_999, l_1000, l_9999, l_10000, l_99999, l_100000, l_1000000, l_1000000001, l_1000000002, l_1000000003, l_1000000005, l_1000000011, l_1000000012, l_1000000013, l_1000000014, pk_div, Nat.div_one]
theorem s_places (p : Int32) (M : Mem) : f_X9_arePlaces p M = some (b2 (1 ≤ p ∧ p ≤ 4), M) := by
  unfold f_X9_arePlaces
  simp only [s_within, vv_d, mm_d, jn_d, bd_d, bd_i]
theorem y_places (p : Int32) (M : Mem) : f_X10_isPlaces p M = some (b2 (1 ≤ p ∧ p ≤ 4), M) := by
  unfold f_X10_isPlaces
  simp only [vv_d, mm_d, jn_d, bd_d, bd_i, s_isInL p 1 4 1 4 M rfl rfl]
/-- reach, on a row whose numbers are known -/
theorem x_reach (R n p k : Nat) (rv : Nat → Nat) (M : Mem) (hR : gsz G1 R = 12) (hn : n ≤ 12) (h1 : 1 ≤ p) (h2 : p ≤ 4) (hk : k < 100) (hv : ∀ j, j < n → rv j < 10000 ∧ M R j = nI (rv j)) : f_X9_reach R (nI n) (nI p) (nI k) M = some (orM (firstT (rl (fun j => rv j / cutN p)) k n), M) := by
  apply Res.eq
  obtain ⟨cb1, cb2⟩ := cutN_b p
  unfold f_X9_reach
  rw [hR]
  simp (maxSteps := 1000000) (disch := omega) only [vv_e, mm_e, jn_e, bd_e, bd_i, ld_i, st_i, la_i, sl_i, nI_add, pk_mul, pk_sub, ng_add, neg_neg_n, nlt, nle, neq, ng_lt, gn_lt, gg_lt, ng_le, gn_le, gg_le, ng_eq, gn_eq, gg_eq, dv_i, if_pos, if_neg, ite_tt, ite_ff, if_b2, if_b2n, l_0, l_1, l_2, l_3, l_4, l_5, l_6, l_7, l_8, l_9, l_10, l_11, l_12, l_13, l_16, l_20, l_24, l_30, l_32, l_33, l_38, l_42, l_43, l_45, l_47, l_48, l_50, l_57, l_60, l_61, l_62, l_96, l_97, l_99, l_100, l_102, l_105, l_110, l_121, l_122, l_124, l_128, l_200, l_255, l_270, l_350, l_360, l_400, l_440, l_490, l_500, l_999, l_1000, l_9999, l_10000, l_99999, l_100000, l_1000000, l_1000000001, l_1000000002, l_1000000003, l_1000000005, l_1000000011, l_1000000012, l_1000000013, l_1000000014, s_places, cutsN]
  refine lo2 (fun m x y M' => ∃ j, j + m = n ∧ y = nI j ∧ M' = M ∧ firstT (rl (fun j => rv j / cutN p)) k j = none ∧ (∀ i, j = i + 1 → x = nI (rl (fun j => rv j / cutN p) i))) ?_ fuel n _ _ M (by show n < 5000; omega) ⟨0, by omega, rfl, rfl, rfl, fun i hi => by omega⟩
  rintro m rc x _ M' ⟨j, hj, rfl, hM, hno, hx⟩ ih
  rw [hM]
  by_cases hjn : j = n
  · subst hjn
    simp (maxSteps := 1000000) (disch := omega) only [ld_i, st_i, la_i, sl_i, nI_add, pk_mul, pk_sub, ng_add, neg_neg_n, nlt, nle, neq, ng_lt, gn_lt, gg_lt, ng_le, gn_le, gg_le, ng_eq, gn_eq, gg_eq, dv_i, if_pos, if_neg, ite_tt, ite_ff, if_b2, if_b2n, l_0, l_1, l_2, l_3, l_4, l_5, l_6, l_7, l_8, l_9, l_10, l_11, l_12, l_13, l_16, l_20, l_24, l_30, l_32, l_33, l_38, l_42, l_43, l_45, l_47, l_48, l_50, l_57, l_60, l_61, l_62, l_96, l_97, l_99, l_100, l_102, l_105, l_110, l_121, l_122, l_124, l_128, l_200, l_255, l_270, l_350, l_360, l_400, l_440, l_490, l_500, l_999, l_1000, l_9999, l_10000, l_99999, l_100000, l_1000000, l_1000000001, l_1000000002, l_1000000003, l_1000000005, l_1000000011, l_1000000012, l_1000000013, l_1000000014]
    rw [hno]
    exact Res.mk ⟨rfl, rfl⟩
  have hfin : k ≤ rl (fun j => rv j / cutN p) j → firstT (rl (fun j => rv j / cutN p)) k n = some j := fun q => firstT_of (by omega) q (fun i hi => firstT_none j hno i hi)
  have hnext : ¬ k ≤ rl (fun j => rv j / cutN p) j → firstT (rl (fun j => rv j / cutN p)) k (j + 1) = none := fun q => by rw [firstT, hno]; exact if_neg q
  obtain ⟨v1, v2⟩ := hv j (by omega)
  have hrl := rl_le (fun j => rv j / cutN p) j
  cases j with
  | zero =>
    by_cases hkk : k ≤ 1
    · simp (maxSteps := 1000000) (disch := omega) only [vv_e, mm_e, jn_e, bd_e, bd_i, ld_i, st_i, la_i, sl_i, nI_add, pk_mul, pk_sub, ng_add, neg_neg_n, nlt, nle, neq, ng_lt, gn_lt, gg_lt, ng_le, gn_le, gg_le, ng_eq, gn_eq, gg_eq, dv_i, if_pos, if_neg, ite_tt, ite_ff, if_b2, if_b2n, l_0, l_1, l_2, l_3, l_4, l_5, l_6, l_7, l_8, l_9, l_10, l_11, l_12, l_13, l_16, l_20, l_24, l_30, l_32, l_33, l_38, l_42, l_43, l_45, l_47, l_48, l_50, l_57, l_60, l_61, l_62, l_96, l_97, l_99, l_100, l_102, l_105, l_110, l_121, l_122, l_124, l_128, l_200, l_255, l_270, l_350, l_360, l_400, l_440, l_490, l_500, l_999, l_1000, l_9999, l_10000, l_99999, l_100000, l_1000000, l_1000000001, l_1000000002, l_1000000003, l_1000000005, l_1000000011, l_1000000012, l_1000000013, l_1000000014]
      rw [hfin hkk]
      exact Res.mk ⟨rfl, rfl⟩
    · simp (maxSteps := 1000000) (disch := omega) only [vv_e, mm_e, jn_e, bd_e, bd_i, ld_i, st_i, la_i, sl_i, nI_add, pk_mul, pk_sub, ng_add, neg_neg_n, nlt, nle, neq, ng_lt, gn_lt, gg_lt, ng_le, gn_le, gg_le, ng_eq, gn_eq, gg_eq, dv_i, if_pos, if_neg, ite_tt, ite_ff, if_b2, if_b2n, l_0, l_1, l_2, l_3, l_4, l_5, l_6, l_7, l_8, l_9, l_10, l_11, l_12, l_13, l_16, l_20, l_24, l_30, l_32, l_33, l_38, l_42, l_43, l_45, l_47, l_48, l_50, l_57, l_60, l_61, l_62, l_96, l_97, l_99, l_100, l_102, l_105, l_110, l_121, l_122, l_124, l_128, l_200, l_255, l_270, l_350, l_360, l_400, l_440, l_490, l_500, l_999, l_1000, l_9999, l_10000, l_99999, l_100000, l_1000000, l_1000000001, l_1000000002, l_1000000003, l_1000000005, l_1000000011, l_1000000012, l_1000000013, l_1000000014]
      exact ih (m - 1) _ _ _ (by omega) ⟨1, by omega, rfl, rfl, hnext hkk, fun i hi => by rw [show i = 0 by omega]; rfl⟩
  | succ j =>
    obtain ⟨w1, w2⟩ := hv j (by omega)
    have hx' := hx j rfl
    subst hx'
    have hrj := rl_le (fun j => rv j / cutN p) j
    have d1 : rv (j + 1) / cutN p ≤ rv (j + 1) := Nat.div_le_self _ _
    have d2 : rv j / cutN p ≤ rv j := Nat.div_le_self _ _
    by_cases he : rv (j + 1) / cutN p = rv j / cutN p
    · have er : rl (fun j => rv j / cutN p) (j + 1) = rl (fun j => rv j / cutN p) j + 1 := by rw [rl]; exact if_pos he
      by_cases hkk : k ≤ rl (fun j => rv j / cutN p) j + 1
      · simp (maxSteps := 1000000) (disch := omega) only [vv_e, mm_e, jn_e, bd_e, bd_i, ld_i, st_i, la_i, sl_i, nI_add, pk_mul, pk_sub, ng_add, neg_neg_n, nlt, nle, neq, ng_lt, gn_lt, gg_lt, ng_le, gn_le, gg_le, ng_eq, gn_eq, gg_eq, dv_i, if_pos, if_neg, ite_tt, ite_ff, if_b2, if_b2n, l_0, l_1, l_2, l_3, l_4, l_5, l_6, l_7, l_8, l_9, l_10, l_11, l_12, l_13, l_16, l_20, l_24, l_30, l_32, l_33, l_38, l_42, l_43, l_45, l_47, l_48, l_50, l_57, l_60, l_61, l_62, l_96, l_97, l_99, l_100, l_102, l_105, l_110, l_121, l_122, l_124, l_128, l_200, l_255, l_270, l_350, l_360, l_400, l_440, l_490, l_500, l_999, l_1000, l_9999, l_10000, l_99999, l_100000, l_1000000, l_1000000001, l_1000000002, l_1000000003, l_1000000005, l_1000000011, l_1000000012, l_1000000013, l_1000000014, v2, w2, pk_div, he, Nat.add_sub_cancel]
        rw [hfin (by omega)]
        exact Res.mk ⟨rfl, rfl⟩
      · simp (maxSteps := 1000000) (disch := omega) only [vv_e, mm_e, jn_e, bd_e, bd_i, ld_i, st_i, la_i, sl_i, nI_add, pk_mul, pk_sub, ng_add, neg_neg_n, nlt, nle, neq, ng_lt, gn_lt, gg_lt, ng_le, gn_le, gg_le, ng_eq, gn_eq, gg_eq, dv_i, if_pos, if_neg, ite_tt, ite_ff, if_b2, if_b2n, l_0, l_1, l_2, l_3, l_4, l_5, l_6, l_7, l_8, l_9, l_10, l_11, l_12, l_13, l_16, l_20, l_24, l_30, l_32, l_33, l_38, l_42, l_43, l_45, l_47, l_48, l_50, l_57, l_60, l_61, l_62, l_96, l_97, l_99, l_100, l_102, l_105, l_110, l_121, l_122, l_124, l_128, l_200, l_255, l_270, l_350, l_360, l_400, l_440, l_490, l_500, l_999, l_1000, l_9999, l_10000, l_99999, l_100000, l_1000000, l_1000000001, l_1000000002, l_1000000003, l_1000000005, l_1000000011, l_1000000012, l_1000000013, l_1000000014, v2, w2, pk_div, he, Nat.add_sub_cancel]
        exact ih (m - 1) _ _ _ (by omega) ⟨j + 1 + 1, by omega, rfl, rfl, hnext (by omega), fun i hi => by rw [show i = j + 1 by omega, er]⟩
    · have er : rl (fun j => rv j / cutN p) (j + 1) = 1 := by rw [rl]; exact if_neg he
      by_cases hkk : k ≤ 1
      · simp (maxSteps := 1000000) (disch := omega) only [vv_e, mm_e, jn_e, bd_e, bd_i, ld_i, st_i, la_i, sl_i, nI_add, pk_mul, pk_sub, ng_add, neg_neg_n, nlt, nle, neq, ng_lt, gn_lt, gg_lt, ng_le, gn_le, gg_le, ng_eq, gn_eq, gg_eq, dv_i, if_pos, if_neg, ite_tt, ite_ff, if_b2, if_b2n, l_0, l_1, l_2, l_3, l_4, l_5, l_6, l_7, l_8, l_9, l_10, l_11, l_12, l_13, l_16, l_20, l_24, l_30, l_32, l_33, l_38, l_42, l_43, l_45, l_47, l_48, l_50, l_57, l_60, l_61, l_62, l_96, l_97, l_99, l_100, l_102, l_105, l_110, l_121, l_122, l_124, l_128, l_200, l_255, l_270, l_350, l_360, l_400, l_440, l_490, l_500, l_999, l_1000, l_9999, l_10000, l_99999, l_100000, l_1000000, l_1000000001, l_1000000002, l_1000000003, l_1000000005, l_1000000011, l_1000000012, l_1000000013, l_1000000014, v2, w2, pk_div, Nat.add_sub_cancel]
        rw [hfin (by omega)]
        exact Res.mk ⟨rfl, rfl⟩
      · simp (maxSteps := 1000000) (disch := omega) only [vv_e, mm_e, jn_e, bd_e, bd_i, ld_i, st_i, la_i, sl_i, nI_add, pk_mul, pk_sub, ng_add, neg_neg_n, nlt, nle, neq, ng_lt, gn_lt, gg_lt, ng_le, gn_le, gg_le, ng_eq, gn_eq, gg_eq, dv_i, if_pos, if_neg, ite_tt, ite_ff, if_b2, if_b2n, l_0, l_1, l_2, l_3, l_4, l_5, l_6, l_7, l_8, l_9, l_10, l_11, l_12, l_13, l_16, l_20, l_24, l_30, l_32, l_33, l_38, l_42, l_43, l_45, l_47, l_48, l_50, l_57, l_60, l_61, l_62, l_96, l_97, l_99, l_100, l_102, l_105, l_110, l_121, l_122, l_124, l_128, l_200, l_255, l_270, l_350, l_360, l_400, l_440, l_490, l_500, l_999, l_1000, l_9999, l_10000, l_99999, l_100000, l_1000000, l_1000000001, l_1000000002, l_1000000003, l_1000000005, l_1000000011, l_1000000012, l_1000000013, l_1000000014, v2, w2, pk_div, Nat.add_sub_cancel]
        exact ih (m - 1) _ _ _ (by omega) ⟨j + 1 + 1, by omega, rfl, rfl, hnext (by omega), fun i hi => by rw [show i = j + 1 by omega, er]⟩
theorem mxrl_le (a : Nat → Nat) : ∀ n, mxw (rl a) n ≤ n
  | 0 => Nat.le_refl _
  | n + 1 => by
    rw [mxw]
    have h1 := mxrl_le a n
    have h2 := (rl_le a n).1
    split <;> omega
theorem x_longest (R n p : Nat) (rv : Nat → Nat) (M : Mem) (hR : gsz G1 R = 12) (hn : n ≤ 12) (h1 : 1 ≤ p) (h2 : p ≤ 4) (hv : ∀ j, j < n → rv j < 10000 ∧ M R j = nI (rv j)) : f_X9_longest R (nI n) (nI p) M = some (nI (mxw (rl (fun j => rv j / cutN p)) n), M) := by
  apply Res.eq
  unfold f_X9_longest
  have hm := mxrl_le (fun j => rv j / cutN p) n
  refine lo1 (fun m y M' => ∃ L, L + m = n ∧ y = nI L ∧ M' = M ∧ L ≤ mxw (rl (fun j => rv j / cutN p)) n) ?_ fuel n _ M (by show n < 5000; omega) ⟨0, by omega, rfl, rfl, Nat.zero_le _⟩
  rintro m rc _ M' ⟨L, hL, rfl, hM, hle⟩ ih
  rw [hM]
  by_cases hLn : L = n
  · subst hLn
    simp (maxSteps := 1000000) (disch := omega) only [ld_i, st_i, la_i, sl_i, nI_add, pk_mul, pk_sub, ng_add, neg_neg_n, nlt, nle, neq, ng_lt, gn_lt, gg_lt, ng_le, gn_le, gg_le, ng_eq, gn_eq, gg_eq, dv_i, if_pos, if_neg, ite_tt, ite_ff, if_b2, if_b2n, l_0, l_1, l_2, l_3, l_4, l_5, l_6, l_7, l_8, l_9, l_10, l_11, l_12, l_13, l_16, l_20, l_24, l_30, l_32, l_33, l_38, l_42, l_43, l_45, l_47, l_48, l_50, l_57, l_60, l_61, l_62, l_96, l_97, l_99, l_100, l_102, l_105, l_110, l_121, l_122, l_124, l_128, l_200, l_255, l_270, l_350, l_360, l_400, l_440, l_490, l_500, l_999, l_1000, l_9999, l_10000, l_99999, l_100000, l_1000000, l_1000000001, l_1000000002, l_1000000003, l_1000000005, l_1000000011, l_1000000012, l_1000000013, l_1000000014]
    exact Res.mk ⟨by rw [show mxw (rl (fun j => rv j / cutN p)) L = L by omega], rfl⟩
  have e1 := x_reach R n p (L + 1) rv M hR hn h1 h2 (by omega) hv
  cases e : firstT (rl (fun j => rv j / cutN p)) (L + 1) n with
  | none =>
    have := (first_mx (f := rl (fun j => rv j / cutN p)) (fun j => (rl_le _ j).2) (by omega)).mp e
    rw [e, orM_n'] at e1
    simp (maxSteps := 1000000) (disch := omega) only [vv_e, mm_e, jn_e, bd_e, bd_i, ld_i, st_i, la_i, sl_i, nI_add, pk_mul, pk_sub, ng_add, neg_neg_n, nlt, nle, neq, ng_lt, gn_lt, gg_lt, ng_le, gn_le, gg_le, ng_eq, gn_eq, gg_eq, dv_i, if_pos, if_neg, ite_tt, ite_ff, if_b2, if_b2n, l_0, l_1, l_2, l_3, l_4, l_5, l_6, l_7, l_8, l_9, l_10, l_11, l_12, l_13, l_16, l_20, l_24, l_30, l_32, l_33, l_38, l_42, l_43, l_45, l_47, l_48, l_50, l_57, l_60, l_61, l_62, l_96, l_97, l_99, l_100, l_102, l_105, l_110, l_121, l_122, l_124, l_128, l_200, l_255, l_270, l_350, l_360, l_400, l_440, l_490, l_500, l_999, l_1000, l_9999, l_10000, l_99999, l_100000, l_1000000, l_1000000001, l_1000000002, l_1000000003, l_1000000005, l_1000000011, l_1000000012, l_1000000013, l_1000000014, e1]
    exact Res.mk ⟨by rw [show mxw (rl (fun j => rv j / cutN p)) n = L by omega], rfl⟩
  | some j =>
    have : ¬ mxw (rl (fun j => rv j / cutN p)) n < L + 1 := fun w => by
      rw [(first_mx (f := rl (fun j => rv j / cutN p)) (fun j => (rl_le _ j).2) (by omega)).mpr w] at e
      cases e
    have hj := (firstT_some n e).1
    rw [e, orM_s] at e1
    simp (maxSteps := 1000000) (disch := omega) only [vv_e, mm_e, jn_e, bd_e, bd_i, ld_i, st_i, la_i, sl_i, nI_add, pk_mul, pk_sub, ng_add, neg_neg_n, nlt, nle, neq, ng_lt, gn_lt, gg_lt, ng_le, gn_le, gg_le, ng_eq, gn_eq, gg_eq, dv_i, if_pos, if_neg, ite_tt, ite_ff, if_b2, if_b2n, l_0, l_1, l_2, l_3, l_4, l_5, l_6, l_7, l_8, l_9, l_10, l_11, l_12, l_13, l_16, l_20, l_24, l_30, l_32, l_33, l_38, l_42, l_43, l_45, l_47, l_48, l_50, l_57, l_60, l_61, l_62, l_96, l_97, l_99, l_100, l_102, l_105, l_110, l_121, l_122, l_124, l_128, l_200, l_255, l_270, l_350, l_360, l_400, l_440, l_490, l_500, l_999, l_1000, l_9999, l_10000, l_99999, l_100000, l_1000000, l_1000000001, l_1000000002, l_1000000003, l_1000000005, l_1000000011, l_1000000012, l_1000000013, l_1000000014, e1]
    exact ih (m - 1) _ _ (by omega) ⟨L + 1, by omega, rfl, rfl, by omega⟩
