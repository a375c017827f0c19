/-! the levels -/
theorem j1_0 (u : Nat) (M : Mem) (h : u = 124) : f_X7_joins (nI 0) (nI u) M = some (nI 1, M) := by
  subst h; unfold f_X7_joins; simp (maxSteps := 1000000) (disch := omega) only [ld_i, st_i, la_i, sl_i, nI_add, pk_mul, pk_sub, ng_add, neg_neg_n, nlt, nle, neq, ng_lt, gn_lt, gg_lt, ng_le, gn_le, gg_le, ng_eq, gn_eq, gg_eq, dv_i, if_pos, if_neg, ite_tt, ite_ff, if_b2, if_b2n, l_0, l_1, l_2, l_3, l_4, l_5, l_6, l_7, l_8, l_9, l_10, l_11, l_12, l_13, l_16, l_20, l_24, l_30, l_32, l_33, l_38, l_42, l_43, l_45, l_47, l_48, l_50, l_57, l_60, l_61, l_62, l_96, l_97, l_99, l_100, l_102, l_105, l_110, l_121, l_122, l_124, l_128, l_200, l_255, l_270, l_350, l_360, l_400, l_440, l_490, l_500, l_999, l_1000, l_9999, l_10000, l_99999, l_100000, l_1000000, l_1000000001, l_1000000002, l_1000000003, l_1000000005, l_1000000011, l_1000000012, l_1000000013, l_1000000014]
theorem j1_1 (u : Nat) (M : Mem) (h : u = 38) : f_X7_joins (nI 1) (nI u) M = some (nI 1, M) := by
  subst h; unfold f_X7_joins; simp (maxSteps := 1000000) (disch := omega) only [ld_i, st_i, la_i, sl_i, nI_add, pk_mul, pk_sub, ng_add, neg_neg_n, nlt, nle, neq, ng_lt, gn_lt, gg_lt, ng_le, gn_le, gg_le, ng_eq, gn_eq, gg_eq, dv_i, if_pos, if_neg, ite_tt, ite_ff, if_b2, if_b2n, l_0, l_1, l_2, l_3, l_4, l_5, l_6, l_7, l_8, l_9, l_10, l_11, l_12, l_13, l_16, l_20, l_24, l_30, l_32, l_33, l_38, l_42, l_43, l_45, l_47, l_48, l_50, l_57, l_60, l_61, l_62, l_96, l_97, l_99, l_100, l_102, l_105, l_110, l_121, l_122, l_124, l_128, l_200, l_255, l_270, l_350, l_360, l_400, l_440, l_490, l_500, l_999, l_1000, l_9999, l_10000, l_99999, l_100000, l_1000000, l_1000000001, l_1000000002, l_1000000003, l_1000000005, l_1000000011, l_1000000012, l_1000000013, l_1000000014]
theorem j1_2 (u : Nat) (M : Mem) (h : u = 60 ∨ u = 61 ∨ u = 62) : f_X7_joins (nI 2) (nI u) M = some (nI 1, M) := by
  rcases h with rfl | rfl | rfl <;> unfold f_X7_joins <;> simp (maxSteps := 1000000) (disch := omega) only [ld_i, st_i, la_i, sl_i, nI_add, pk_mul, pk_sub, ng_add, neg_neg_n, nlt, nle, neq, ng_lt, gn_lt, gg_lt, ng_le, gn_le, gg_le, ng_eq, gn_eq, gg_eq, dv_i, if_pos, if_neg, ite_tt, ite_ff, if_b2, if_b2n, l_0, l_1, l_2, l_3, l_4, l_5, l_6, l_7, l_8, l_9, l_10, l_11, l_12, l_13, l_16, l_20, l_24, l_30, l_32, l_33, l_38, l_42, l_43, l_45, l_47, l_48, l_50, l_57, l_60, l_61, l_62, l_96, l_97, l_99, l_100, l_102, l_105, l_110, l_121, l_122, l_124, l_128, l_200, l_255, l_270, l_350, l_360, l_400, l_440, l_490, l_500, l_999, l_1000, l_9999, l_10000, l_99999, l_100000, l_1000000, l_1000000001, l_1000000002, l_1000000003, l_1000000005, l_1000000011, l_1000000012, l_1000000013, l_1000000014]
theorem j1_3 (u : Nat) (M : Mem) (h : u = 43 ∨ u = 45) : f_X7_joins (nI 3) (nI u) M = some (nI 1, M) := by
  rcases h with rfl | rfl <;> unfold f_X7_joins <;> simp (maxSteps := 1000000) (disch := omega) only [ld_i, st_i, la_i, sl_i, nI_add, pk_mul, pk_sub, ng_add, neg_neg_n, nlt, nle, neq, ng_lt, gn_lt, gg_lt, ng_le, gn_le, gg_le, ng_eq, gn_eq, gg_eq, dv_i, if_pos, if_neg, ite_tt, ite_ff, if_b2, if_b2n, l_0, l_1, l_2, l_3, l_4, l_5, l_6, l_7, l_8, l_9, l_10, l_11, l_12, l_13, l_16, l_20, l_24, l_30, l_32, l_33, l_38, l_42, l_43, l_45, l_47, l_48, l_50, l_57, l_60, l_61, l_62, l_96, l_97, l_99, l_100, l_102, l_105, l_110, l_121, l_122, l_124, l_128, l_200, l_255, l_270, l_350, l_360, l_400, l_440, l_490, l_500, l_999, l_1000, l_9999, l_10000, l_99999, l_100000, l_1000000, l_1000000001, l_1000000002, l_1000000003, l_1000000005, l_1000000011, l_1000000012, l_1000000013, l_1000000014]
theorem j1_4 (u : Nat) (M : Mem) (h : u = 42 ∨ u = 47) : f_X7_joins (nI 4) (nI u) M = some (nI 1, M) := by
  rcases h with rfl | rfl <;> unfold f_X7_joins <;> simp (maxSteps := 1000000) (disch := omega) only [ld_i, st_i, la_i, sl_i, nI_add, pk_mul, pk_sub, ng_add, neg_neg_n, nlt, nle, neq, ng_lt, gn_lt, gg_lt, ng_le, gn_le, gg_le, ng_eq, gn_eq, gg_eq, dv_i, if_pos, if_neg, ite_tt, ite_ff, if_b2, if_b2n, l_0, l_1, l_2, l_3, l_4, l_5, l_6, l_7, l_8, l_9, l_10, l_11, l_12, l_13, l_16, l_20, l_24, l_30, l_32, l_33, l_38, l_42, l_43, l_45, l_47, l_48, l_50, l_57, l_60, l_61, l_62, l_96, l_97, l_99, l_100, l_102, l_105, l_110, l_121, l_122, l_124, l_128, l_200, l_255, l_270, l_350, l_360, l_400, l_440, l_490, l_500, l_999, l_1000, l_9999, l_10000, l_99999, l_100000, l_1000000, l_1000000001, l_1000000002, l_1000000003, l_1000000005, l_1000000011, l_1000000012, l_1000000013, l_1000000014]
theorem j0_0 (u : Nat) (M : Mem) (hu : u < 256) (h : ¬ u = 124) : f_X7_joins (nI 0) (cbv u) M = some (nI 0, M) := by
  unfold f_X7_joins; simp (maxSteps := 1000000) (disch := omega) only [ld_i, st_i, la_i, sl_i, nI_add, pk_mul, pk_sub, ng_add, neg_neg_n, nlt, nle, neq, ng_lt, gn_lt, gg_lt, ng_le, gn_le, gg_le, ng_eq, gn_eq, gg_eq, dv_i, if_pos, if_neg, ite_tt, ite_ff, if_b2, if_b2n, l_0, l_1, l_2, l_3, l_4, l_5, l_6, l_7, l_8, l_9, l_10, l_11, l_12, l_13, l_16, l_20, l_24, l_30, l_32, l_33, l_38, l_42, l_43, l_45, l_47, l_48, l_50, l_57, l_60, l_61, l_62, l_96, l_97, l_99, l_100, l_102, l_105, l_110, l_121, l_122, l_124, l_128, l_200, l_255, l_270, l_350, l_360, l_400, l_440, l_490, l_500, l_999, l_1000, l_9999, l_10000, l_99999, l_100000, l_1000000, l_1000000001, l_1000000002, l_1000000003, l_1000000005, l_1000000011, l_1000000012, l_1000000013, l_1000000014, cbv_eq, ite_self]
theorem j0_1 (u : Nat) (M : Mem) (hu : u < 256) (h : ¬ u = 38) : f_X7_joins (nI 1) (cbv u) M = some (nI 0, M) := by
  unfold f_X7_joins; simp (maxSteps := 1000000) (disch := omega) only [ld_i, st_i, la_i, sl_i, nI_add, pk_mul, pk_sub, ng_add, neg_neg_n, nlt, nle, neq, ng_lt, gn_lt, gg_lt, ng_le, gn_le, gg_le, ng_eq, gn_eq, gg_eq, dv_i, if_pos, if_neg, ite_tt, ite_ff, if_b2, if_b2n, l_0, l_1, l_2, l_3, l_4, l_5, l_6, l_7, l_8, l_9, l_10, l_11, l_12, l_13, l_16, l_20, l_24, l_30, l_32, l_33, l_38, l_42, l_43, l_45, l_47, l_48, l_50, l_57, l_60, l_61, l_62, l_96, l_97, l_99, l_100, l_102, l_105, l_110, l_121, l_122, l_124, l_128, l_200, l_255, l_270, l_350, l_360, l_400, l_440, l_490, l_500, l_999, l_1000, l_9999, l_10000, l_99999, l_100000, l_1000000, l_1000000001, l_1000000002, l_1000000003, l_1000000005, l_1000000011, l_1000000012, l_1000000013, l_1000000014, cbv_eq, ite_self]
theorem j0_2 (u : Nat) (M : Mem) (hu : u < 256) (h : ¬ (u = 60 ∨ u = 61 ∨ u = 62)) : f_X7_joins (nI 2) (cbv u) M = some (nI 0, M) := by
  unfold f_X7_joins; simp (maxSteps := 1000000) (disch := omega) only [ld_i, st_i, la_i, sl_i, nI_add, pk_mul, pk_sub, ng_add, neg_neg_n, nlt, nle, neq, ng_lt, gn_lt, gg_lt, ng_le, gn_le, gg_le, ng_eq, gn_eq, gg_eq, dv_i, if_pos, if_neg, ite_tt, ite_ff, if_b2, if_b2n, l_0, l_1, l_2, l_3, l_4, l_5, l_6, l_7, l_8, l_9, l_10, l_11, l_12, l_13, l_16, l_20, l_24, l_30, l_32, l_33, l_38, l_42, l_43, l_45, l_47, l_48, l_50, l_57, l_60, l_61, l_62, l_96, l_97, l_99, l_100, l_102, l_105, l_110, l_121, l_122, l_124, l_128, l_200, l_255, l_270, l_350, l_360, l_400, l_440, l_490, l_500, l_999, l_1000, l_9999, l_10000, l_99999, l_100000, l_1000000, l_1000000001, l_1000000002, l_1000000003, l_1000000005, l_1000000011, l_1000000012, l_1000000013, l_1000000014, cbv_eq, ite_self]
theorem j0_3 (u : Nat) (M : Mem) (hu : u < 256) (h : ¬ (u = 43 ∨ u = 45)) : f_X7_joins (nI 3) (cbv u) M = some (nI 0, M) := by
  unfold f_X7_joins; simp (maxSteps := 1000000) (disch := omega) only [ld_i, st_i, la_i, sl_i, nI_add, pk_mul, pk_sub, ng_add, neg_neg_n, nlt, nle, neq, ng_lt, gn_lt, gg_lt, ng_le, gn_le, gg_le, ng_eq, gn_eq, gg_eq, dv_i, if_pos, if_neg, ite_tt, ite_ff, if_b2, if_b2n, l_0, l_1, l_2, l_3, l_4, l_5, l_6, l_7, l_8, l_9, l_10, l_11, l_12, l_13, l_16, l_20, l_24, l_30, l_32, l_33, l_38, l_42, l_43, l_45, l_47, l_48, l_50, l_57, l_60, l_61, l_62, l_96, l_97, l_99, l_100, l_102, l_105, l_110, l_121, l_122, l_124, l_128, l_200, l_255, l_270, l_350, l_360, l_400, l_440, l_490, l_500, l_999, l_1000, l_9999, l_10000, l_99999, l_100000, l_1000000, l_1000000001, l_1000000002, l_1000000003, l_1000000005, l_1000000011, l_1000000012, l_1000000013, l_1000000014, cbv_eq, ite_self]
theorem j0_4 (u : Nat) (M : Mem) (hu : u < 256) (h : ¬ (u = 42 ∨ u = 47)) : f_X7_joins (nI 4) (cbv u) M = some (nI 0, M) := by
  unfold f_X7_joins; simp (maxSteps := 1000000) (disch := omega) only [ld_i, st_i, la_i, sl_i, nI_add, pk_mul, pk_sub, ng_add, neg_neg_n, nlt, nle, neq, ng_lt, gn_lt, gg_lt, ng_le, gn_le, gg_le, ng_eq, gn_eq, gg_eq, dv_i, if_pos, if_neg, ite_tt, ite_ff, if_b2, if_b2n, l_0, l_1, l_2, l_3, l_4, l_5, l_6, l_7, l_8, l_9, l_10, l_11, l_12, l_13, l_16, l_20, l_24, l_30, l_32, l_33, l_38, l_42, l_43, l_45, l_47, l_48, l_50, l_57, l_60, l_61, l_62, l_96, l_97, l_99, l_100, l_102, l_105, l_110, l_121, l_122, l_124, l_128, l_200, l_255, l_270, l_350, l_360, l_400, l_440, l_490, l_500, l_999, l_1000, l_9999, l_10000, l_99999, l_100000, l_1000000, l_1000000001, l_1000000002, l_1000000003, l_1000000005, l_1000000011, l_1000000012, l_1000000013, l_1000000014, cbv_eq, ite_self]
def mB1 (c : Int32) (g2 : Mem → Option (Int32 × Mem)) (rc2 : Mem → Option (Int32 × Mem)) (M : Mem) : Option (Int32 × Mem) :=
      bd (f_X10_isSign 0 c M) fun x3 M =>
      if x3 = 0 then
        some (1, M)
      else
        bd (f_X10_goesOn 0 M) fun _ M =>
        bd (g2 M) fun x5 M =>
        if x5 = 0 then
          some (0, M)
        else
          bd (f_X10_step 0 2 c M) fun _ M =>
          rc2 M
def mB2 (c1 c2 : Int32) (g2 : Mem → Option (Int32 × Mem)) (rc2 : Mem → Option (Int32 × Mem)) (M : Mem) : Option (Int32 × Mem) :=
      bd (f_X10_isSign 0 c1 M) fun x3 M =>
      jn (fun (M : Mem) =>
        vv (M 0 18) fun x5 =>
        bd (f_X10_goesOn 0 M) fun _ M =>
        bd (g2 M) fun x7 M =>
        if x7 = 0 then
          some (0, M)
        else
          bd (f_X10_step 0 2 x5 M) fun _ M =>
          rc2 M
      ) fun k4 =>
      if x3 = 0 then
        bd (f_X10_isSign 0 c2 M) fun x9 M =>
        if x9 = 0 then
          some (1, M)
        else
          k4 M
      else
        k4 M
def mB3 (g2 : Mem → Option (Int32 × Mem)) (M : Mem) : Option (Int32 × Mem) :=
    bd (f_X10_isSign 0 60 M) fun x2 M =>
    jn (fun (M : Mem) =>
      vv (M 0 18) fun x4 =>
      bd (f_X10_goesOn 0 M) fun _ M =>
      bd (g2 M) fun x6 M =>
      if x6 = 0 then
        some (0, M)
      else
        bd (f_X10_step 0 2 x4 M) fun _ M =>
        some (1, M)
    ) fun k3 =>
    if x2 = 0 then
      bd (f_X10_isSign 0 61 M) fun x8 M =>
      if x8 = 0 then
        bd (f_X10_isSign 0 62 M) fun x9 M =>
        if x9 = 0 then
          some (1, M)
        else
          k3 M
      else
        k3 M
    else
      k3 M
theorem mB1_0 {n : Nat} {B : Nat → Nat} {M N : Mem} {a b s c : Nat} (hT : TK n B M N a b s) (hc : c < 256) (hx : ¬ (s = 3 ∧ B a = c)) (g2 rc : Mem → Option (Int32 × Mem)) : mB1 (nI c) g2 rc N = some (nI 1, N) := by
  unfold mB1
  rw [m_sign hT c hc, bd_e, if_b2, if_neg hx]
  rfl
theorem mB1_1 {n : Nat} {B : Nat → Nat} {M N : Mem} {a b s c : Nat} (hT : TK n B M N a b s) (hc : c < 256) (h3 : s = 3) (hu : B a = c) (g2 rc : Mem → Option (Int32 × Mem)) : mB1 (nI c) g2 rc N = (bd (f_X10_goesOn 0 N) fun _ M => bd (g2 M) fun x M => if x = 0 then some (0, M) else bd (f_X10_step 0 2 (nI (B a)) M) fun _ M => rc M) := by
  unfold mB1
  rw [m_sign hT c hc, bd_e, if_b2, if_pos ⟨h3, hu⟩, hu]
theorem mB2_0 {n : Nat} {B : Nat → Nat} {M N : Mem} {a b s c c' : Nat} (hT : TK n B M N a b s) (hc : c < 256) (hc' : c' < 256) (hx : ¬ (s = 3 ∧ (B a = c ∨ B a = c'))) (g2 rc : Mem → Option (Int32 × Mem)) : mB2 (nI c) (nI c') g2 rc N = some (nI 1, N) := by
  unfold mB2
  rw [m_sign hT c hc, bd_e, jn_e, if_b2, if_neg (by omega), m_sign hT c' hc', bd_e, if_b2, if_neg (by omega)]
  rfl
theorem mB2_1 {n : Nat} {B : Nat → Nat} {M N : Mem} {a b s c c' : Nat} (hT : TK n B M N a b s) (hc : c < 256) (hc' : c' < 256) (h3 : s = 3) (hu : B a = c ∨ B a = c') (g2 rc : Mem → Option (Int32 × Mem)) : mB2 (nI c) (nI c') g2 rc N = (bd (f_X10_goesOn 0 N) fun _ M => bd (g2 M) fun x M => if x = 0 then some (0, M) else bd (f_X10_step 0 2 (nI (B a)) M) fun _ M => rc M) := by
  have k4 : (vv (N 0 18) fun x5 => bd (f_X10_goesOn 0 N) fun _ M => bd (g2 M) fun x7 M => if x7 = 0 then some (0, M) else bd (f_X10_step 0 2 x5 M) fun _ M => rc M) = (bd (f_X10_goesOn 0 N) fun _ M => bd (g2 M) fun x M => if x = 0 then some (0, M) else bd (f_X10_step 0 2 (nI (B a)) M) fun _ M => rc M) := by
    rw [vv_e, hT.let h3]
  unfold mB2
  rw [m_sign hT c hc, bd_e, jn_e, if_b2]
  by_cases e : s = 3 ∧ B a = c
  · rw [if_pos e]
    exact k4
  · rw [if_neg e, m_sign hT c' hc', bd_e, if_b2, if_pos (by omega)]
    exact k4
theorem mB3_0 {n : Nat} {B : Nat → Nat} {M N : Mem} {a b s : Nat} (hT : TK n B M N a b s) (hx : ¬ (s = 3 ∧ (B a = 60 ∨ B a = 61 ∨ B a = 62))) (g2 : Mem → Option (Int32 × Mem)) : mB3 g2 N = some (nI 1, N) := by
  unfold mB3
  rw [show f_X10_isSign 0 60 N = _ from m_sign hT 60 (by omega), bd_e, jn_e, if_b2, if_neg (by omega), show f_X10_isSign 0 61 N = _ from m_sign hT 61 (by omega), bd_e, if_b2, if_neg (by omega), show f_X10_isSign 0 62 N = _ from m_sign hT 62 (by omega), bd_e, if_b2, if_neg (by omega)]
  rfl
theorem mB3_1 {n : Nat} {B : Nat → Nat} {M N : Mem} {a b s : Nat} (hT : TK n B M N a b s) (h3 : s = 3) (hu : B a = 60 ∨ B a = 61 ∨ B a = 62) (g2 : Mem → Option (Int32 × Mem)) : mB3 g2 N = (bd (f_X10_goesOn 0 N) fun _ M => bd (g2 M) fun x M => if x = 0 then some (0, M) else bd (f_X10_step 0 2 (nI (B a)) M) fun _ M => some (1, M)) := by
  have k4 : (vv (N 0 18) fun x5 => bd (f_X10_goesOn 0 N) fun _ M => bd (g2 M) fun x7 M => if x7 = 0 then some ((0 : Int32), M) else bd (f_X10_step 0 2 x5 M) fun _ M => some (1, M)) = (bd (f_X10_goesOn 0 N) fun _ M => bd (g2 M) fun x M => if x = 0 then some (0, M) else bd (f_X10_step 0 2 (nI (B a)) M) fun _ M => some (1, M)) := by
    rw [vv_e, hT.let h3]
  unfold mB3
  rw [show f_X10_isSign 0 60 N = _ from m_sign hT 60 (by omega), bd_e, jn_e, if_b2]
  by_cases e : s = 3 ∧ B a = 60
  · rw [if_pos e]
    exact k4
  rw [if_neg e, show f_X10_isSign 0 61 N = _ from m_sign hT 61 (by omega), bd_e, if_b2]
  by_cases e : s = 3 ∧ B a = 61
  · rw [if_pos e]
    exact k4
  rw [if_neg e, show f_X10_isSign 0 62 N = _ from m_sign hT 62 (by omega), bd_e, if_b2, if_pos (by omega)]
  exact k4
theorem ei_s (d : Nat) (k : Int32) (N : Mem) : (GP_ei (d + 1)).1 0 k N = (bd ((GP_ei d).2.1 0 k N) fun x M => if x = 0 then some (0, M) else it0 (mB1 124 (fun M => (GP_ei d).2.1 0 k M)) fuel M) := rfl
theorem bo_s (d : Nat) (k : Int32) (N : Mem) : (GP_ei (d + 1)).2.1 0 k N = (bd ((GP_ei d).2.2.1 0 k N) fun x M => if x = 0 then some (0, M) else it0 (mB1 38 (fun M => (GP_ei d).2.2.1 0 k M)) fuel M) := rfl
theorem te_s (d : Nat) (k : Int32) (N : Mem) : (GP_ei (d + 1)).2.2.1 0 k N = (bd ((GP_ei d).2.2.2.1 0 k N) fun x M => if x = 0 then some (0, M) else mB3 (fun M => (GP_ei d).2.2.2.1 0 k M) M) := rfl
theorem su_s (d : Nat) (k : Int32) (N : Mem) : (GP_ei (d + 1)).2.2.2.1 0 k N = (bd ((GP_ei d).2.2.2.2.1 0 k N) fun x M => if x = 0 then some (0, M) else it0 (mB2 43 45 (fun M => (GP_ei d).2.2.2.2.1 0 k M)) fuel M) := rfl
theorem tr_s (d : Nat) (k : Int32) (N : Mem) : (GP_ei (d + 1)).2.2.2.2.1 0 k N = (bd ((GP_ei d).2.2.2.2.2 0 k N) fun x M => if x = 0 then some (0, M) else it0 (mB2 42 47 (fun M => (GP_ei d).2.2.2.2.2 0 k M)) fuel M) := rfl
theorem p0_s (d : Nat) (k : Int32) (N : Mem) : (GP_ei (d + 1)).2.2.2.2.2 0 k N = F_X10_part0 ((GP_ei d).1) ((GP_ei d).2.1) ((GP_ei d).2.2.1) ((GP_ei d).2.2.2.1) ((GP_ei d).2.2.2.2.1) ((GP_ei d).2.2.2.2.2) 0 k N := rfl
theorem rp_s (d : Nat) (p1 p2 : Int32) (M : Mem) : (GP_rl (d + 1)).2 61 p1 p2 M = F_X7_readPiece ((GP_rl d).1) ((GP_rl d).2) 61 p1 p2 M := rfl
theorem rl_s (d : Nat) (p1 p2 p3 : Int32) (M : Mem) : (GP_rl (d + 1)).1 61 p1 p2 p3 M = (if p1 < 5 then (bd ((GP_rl d).1 61 (p1 + 1) p2 p3 M) fun _ M => if p1 = 2 then it1 (cB p1 1 (fun M => (GP_rl d).1 61 (p1 + 1) p2 p3 M)) fuel 0 M else it1 (cB p1 96 (fun M => (GP_rl d).1 61 (p1 + 1) p2 p3 M)) fuel 0 M) else (bd ((GP_rl d).2 61 p2 p3 M) fun _ M => some (0, M))) := rfl
theorem bd_neg {c : Prop} [Decidable c] (h : ¬ c) (x : Option (Int32 × Mem)) (A C : Mem → Option (Int32 × Mem)) : (bd x fun _ M => if c then A M else C M) = bd x fun _ M => C M := by
  rw [show (fun (_ : Int32) (M : Mem) => if c then A M else C M) = fun (_ : Int32) (M : Mem) => C M from funext fun _ => funext fun _ => if_neg h]
theorem bd_pos {c : Prop} [Decidable c] (h : c) (x : Option (Int32 × Mem)) (A C : Mem → Option (Int32 × Mem)) : (bd x fun _ M => if c then A M else C M) = bd x fun _ M => A M := by
  rw [show (fun (_ : Int32) (M : Mem) => if c then A M else C M) = fun (_ : Int32) (M : Mem) => A M from funext fun _ => funext fun _ => if_pos h]
theorem rl_n (d : Nat) (p1 q p2 p3 : Int32) (M : Mem) (h5 : p1 < 5) (h2 : ¬ p1 = 2) (hq : p1 + 1 = q) : (GP_rl (d + 1)).1 61 p1 p2 p3 M = (bd ((GP_rl d).1 61 q p2 p3 M) fun _ M => it1 (cB p1 96 (fun M => (GP_rl d).1 61 q p2 p3 M)) fuel 0 M) := by
  subst hq
  rw [rl_s, if_pos h5]
  exact bd_neg h2 _ (fun M => it1 (cB p1 1 (fun M => (GP_rl d).1 61 (p1 + 1) p2 p3 M)) fuel 0 M) (fun M => it1 (cB p1 96 (fun M => (GP_rl d).1 61 (p1 + 1) p2 p3 M)) fuel 0 M)
theorem rl_2 (d : Nat) (p1 q p2 p3 : Int32) (M : Mem) (h5 : p1 < 5) (h2 : p1 = 2) (hq : p1 + 1 = q) : (GP_rl (d + 1)).1 61 p1 p2 p3 M = (bd ((GP_rl d).1 61 q p2 p3 M) fun _ M => it1 (cB p1 1 (fun M => (GP_rl d).1 61 q p2 p3 M)) fuel 0 M) := by
  subst hq
  rw [rl_s, if_pos h5]
  exact bd_pos h2 _ (fun M => it1 (cB p1 1 (fun M => (GP_rl d).1 61 (p1 + 1) p2 p3 M)) fuel 0 M) (fun M => it1 (cB p1 96 (fun M => (GP_rl d).1 61 (p1 + 1) p2 p3 M)) fuel 0 M)
theorem Out.x {n L kc : Nat} {B : Nat → Nat} {op no : Nat} {M N : Mem} {a d : Nat} {x y : Option (Int32 × Mem)} (h : Out n L kc B op no M N a d x y) : Out n L kc B op no M N a d (bd x fun _ M => some (0, M)) y := by
  obtain ⟨r, M', r', N', e1, e2, hO⟩ := h
  rw [e1, bd_e]
  exact ⟨0, M', r', N', rfl, e2, hO⟩
theorem levels {n L kc km : Nat} {B : Nat → Nat} {op no : Nat} (hL : L + 192 ≤ 3510) (dc dm : Nat)
    (H : ∀ M N a b s d lv, PSt n L kc B M N a b s d lv op no → Out n L kc B op no M N a d ((GP_rl dc).2 61 (nI op) (nI no) M) ((GP_ei dm).2.2.2.2.2 0 (nI km) N)) :
    ∀ M N a b s d lv, PSt n L kc B M N a b s d lv op no → Out n L kc B op no M N a d ((GP_rl (dc + 6)).1 61 (nI 0) (nI op) (nI no) M) ((GP_ei (dm + 5)).1 0 (nI km) N) := by
  have H5 : ∀ M N a b s d lv, PSt n L kc B M N a b s d lv op no → Out n L kc B op no M N a d ((GP_rl (dc + 1)).1 61 (nI 5) (nI op) (nI no) M) ((GP_ei dm).2.2.2.2.2 0 (nI km) N) := by
    intro M N a b s d lv hP
    rw [rl_s, if_neg (show ¬ nI 5 < 5 by decide)]
    exact (H M N a b s d lv hP).x
  have H4 : ∀ M N a b s d lv, PSt n L kc B M N a b s d lv op no → Out n L kc B op no M N a d ((GP_rl (dc + 2)).1 61 (nI 4) (nI op) (nI no) M) ((GP_ei (dm + 1)).2.2.2.2.1 0 (nI km) N) := by
    intro M N a b s d lv hP
    rw [rl_n (dc + 1) (nI 4) (nI 5) (nI op) (nI no) M (by decide) (by decide) (by decide), tr_s]
    exact lvl (l := 4) (sg := fun u => u = 42 ∨ u = 47) hL H5 (fun u hu => by unfold sgnN; omega) (fun u M hu => j1_4 u M hu) (fun u M h256 hu => j0_4 u M h256 hu) (fun rc M N a b s hT hx => mB2_0 (c := 42) (c' := 47) hT (by omega) (by omega) hx _ rc) (fun rc M N a b s hT h3 hx => mB2_1 (c := 42) (c' := 47) hT (by omega) (by omega) h3 hx _ rc) hP
  have H3 : ∀ M N a b s d lv, PSt n L kc B M N a b s d lv op no → Out n L kc B op no M N a d ((GP_rl (dc + 3)).1 61 (nI 3) (nI op) (nI no) M) ((GP_ei (dm + 2)).2.2.2.1 0 (nI km) N) := by
    intro M N a b s d lv hP
    rw [rl_n (dc + 2) (nI 3) (nI 4) (nI op) (nI no) M (by decide) (by decide) (by decide), su_s]
    exact lvl (l := 3) (sg := fun u => u = 43 ∨ u = 45) hL H4 (fun u hu => by unfold sgnN; omega) (fun u M hu => j1_3 u M hu) (fun u M h256 hu => j0_3 u M h256 hu) (fun rc M N a b s hT hx => mB2_0 (c := 43) (c' := 45) hT (by omega) (by omega) hx _ rc) (fun rc M N a b s hT h3 hx => mB2_1 (c := 43) (c' := 45) hT (by omega) (by omega) h3 hx _ rc) hP
  have H2 : ∀ M N a b s d lv, PSt n L kc B M N a b s d lv op no → Out n L kc B op no M N a d ((GP_rl (dc + 4)).1 61 (nI 2) (nI op) (nI no) M) ((GP_ei (dm + 3)).2.2.1 0 (nI km) N) := by
    intro M N a b s d lv hP
    rw [rl_2 (dc + 3) (nI 2) (nI 3) (nI op) (nI no) M (by decide) (by decide) (by decide), te_s]
    exact lvt (l := 2) (sg := fun u => u = 60 ∨ u = 61 ∨ u = 62) hL H3 (fun u hu => by unfold sgnN; omega) (fun u M hu => j1_2 u M hu) (fun u M h256 hu => j0_2 u M h256 hu) (fun M N a b s hT hx => mB3_0 hT hx _) (fun M N a b s hT h3 hx => mB3_1 hT h3 hx _) hP
  have H1 : ∀ M N a b s d lv, PSt n L kc B M N a b s d lv op no → Out n L kc B op no M N a d ((GP_rl (dc + 5)).1 61 (nI 1) (nI op) (nI no) M) ((GP_ei (dm + 4)).2.1 0 (nI km) N) := by
    intro M N a b s d lv hP
    rw [rl_n (dc + 4) (nI 1) (nI 2) (nI op) (nI no) M (by decide) (by decide) (by decide), bo_s]
    exact lvl (l := 1) (sg := fun u => u = 38) hL H2 (fun u hu => by unfold sgnN; omega) (fun u M hu => j1_1 u M hu) (fun u M h256 hu => j0_1 u M h256 hu) (fun rc M N a b s hT hx => mB1_0 (c := 38) hT (by omega) hx _ rc) (fun rc M N a b s hT h3 hx => mB1_1 (c := 38) hT (by omega) h3 hx _ rc) hP
  intro M N a b s d lv hP
  rw [rl_n (dc + 5) (nI 0) (nI 1) (nI op) (nI no) M (by decide) (by decide) (by decide), ei_s]
  exact lvl (l := 0) (sg := fun u => u = 124) hL H1 (fun u hu => by unfold sgnN; omega) (fun u M hu => j1_0 u M hu) (fun u M h256 hu => j0_0 u M h256 hu) (fun rc M N a b s hT hx => mB1_0 (c := 124) hT (by omega) hx _ rc) (fun rc M N a b s hT h3 hx => mB1_1 (c := 124) hT (by omega) h3 hx _ rc) hP
theorem pieces {n L kc km : Nat} {B : Nat → Nat} (hL : L + 192 ≤ 3510) (hkc : (kc = 0 ∧ km < 12) ∨ (kc = 1 ∧ km = 12) ∨ (kc = 2 ∧ km = 13)) : ∀ (X op no : Nat), op ≤ 8 → no ≤ 8 → 7 * (8 - op) + (8 - no) = X → ∀ dc dm, X < dc → X < dm →
    ∀ M N a b s d lv, PSt n L kc B M N a b s d lv op no → Out n L kc B op no M N a d ((GP_rl dc).2 61 (nI op) (nI no) M) ((GP_ei dm).2.2.2.2.2 0 (nI km) N) := by
  intro X
  induction X using Nat.strongRecOn with
  | ind X ih =>
    intro op no ho hno hX dc dm hdc hdm
    obtain ⟨dc, rfl⟩ : ∃ c, dc = c + 1 := ⟨dc - 1, by omega⟩
    obtain ⟨dm, rfl⟩ : ∃ c, dm = c + 1 := ⟨dm - 1, by omega⟩
    intro M N a b s d lv hP
    rw [rp_s, p0_s]
    refine piece hL ho hno hkc _ _ _ _ _ _ _ _ (fun h8 => ?_) (fun h8 => ?_) M N a b s d lv hP
    · exact ih (X - 1) (by omega) op (no + 1) ho (by omega) (by omega) dc dm (by omega) (by omega)
    · obtain ⟨c, rfl⟩ : ∃ c, dc = c + 6 := ⟨dc - 6, by omega⟩
      obtain ⟨m, rfl⟩ : ∃ c, dm = c + 5 := ⟨dm - 5, by omega⟩
      exact levels hL c m (ih (X - 7) (by omega) (op + 1) no (by omega) hno (by omega) c m (by omega) (by omega))
theorem readers {n L kc km : Nat} {B : Nat → Nat} (hL : L + 192 ≤ 3510) (hkc : (kc = 0 ∧ km < 12) ∨ (kc = 1 ∧ km = 12) ∨ (kc = 2 ∧ km = 13)) {M N : Mem} {a b s d lv : Nat} (hP : PSt n L kc B M N a b s d lv 0 0) : Out n L kc B 0 0 M N a d (f_X7_readLevel 61 0 0 0 M) (f_X10_either 0 (nI km) N) :=
  levels (op := 0) (no := 0) (km := km) hL 94 95 (pieces hL hkc 64 0 0 (by omega) (by omega) (by omega) 94 95 (by omega) (by omega)) M N a b s d lv hP
