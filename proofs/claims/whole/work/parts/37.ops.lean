/-! one more figure -/
def addM (M : Mem) (n : Nat) (p1 p2 p3 p4 p5 : Int32) : Mem := up (up (up (up (up (up M 4 n p1) 5 n p2) 6 n p3) 7 n p4) 8 n p5) 2 2 (nI (n + 1))
def addN (N : Mem) (n : Nat) (p1 p2 p3 p4 p5 : Int32) : Mem := up (up (up (up (up (up (up N 1 (30 + 6 * n) p1) 1 (31 + 6 * n) p2) 1 (32 + 6 * n) p3) 1 (33 + 6 * n) p4) 1 (34 + 6 * n) p5) 1 (35 + 6 * n) (-1)) 1 1 (nI (n + 1))
theorem x_add (n : Nat) (p1 p2 p3 p4 p5 : Int32) (M : Mem) (h : M 2 2 = nI n) (hn : n < 40) : f_X0_add 2 p1 p2 p3 p4 p5 M = some (nI n, addM M n p1 p2 p3 p4 p5) := by
  unfold f_X0_add addM
  simp only [vv_d, mm_d, jn_d, bd_d, bd_i, r1_0_0, r1_0_1, r1_0_3, r1_0_4, r1_0_6, r1_0_7, r1_1_0, r1_1_1, r1_1_2, r1_1_3, r1_1_4, r1_1_5, r1_1_9, r1_2_1, r1_2_3, r1_2_4, r1_2_5, r1_2_6, r1_2_7, r1_9_1, r1_9_2, r1_9_3, r1_9_4, r1_9_5, r1_9_6, r1_16_0, r1_16_1, r1_19_0, r1_19_2, r1_19_3, r1_19_4, r1_24_1, r1_24_2, r1_24_3, r1_24_5, r1_61_0, r1_61_6]
  rw [h, if_pos (show nI (n) < 40 from nI_lt (a := n) (b := 40) (by omega) (by decide)), st_n n rfl (by omega) (by decide)]
  rw [up_a M 4 n 2 2 p1 (by decide), h, st_n n rfl (by omega) (by decide)]
  rw [up_a _ 5 n 2 2 p2 (by decide), up_a M 4 n 2 2 p1 (by decide), h, st_n n rfl (by omega) (by decide)]
  rw [up_a _ 6 n 2 2 p3 (by decide), up_a _ 5 n 2 2 p2 (by decide), up_a M 4 n 2 2 p1 (by decide), h, st_n n rfl (by omega) (by decide)]
  rw [up_a _ 7 n 2 2 p4 (by decide), up_a _ 6 n 2 2 p3 (by decide), up_a _ 5 n 2 2 p2 (by decide), up_a M 4 n 2 2 p1 (by decide), h, st_n n rfl (by omega) (by decide)]
  rw [up_a _ 8 n 2 2 p5 (by decide), up_a _ 7 n 2 2 p4 (by decide), up_a _ 6 n 2 2 p3 (by decide), up_a _ 5 n 2 2 p2 (by decide), up_a M 4 n 2 2 p1 (by decide), h, nI_1, up_same, nmx]
theorem y_new (n : Nat) (p1 p2 p3 p4 p5 : Int32) (N : Mem) (h : N 1 1 = nI n) (hn : n < 40) : f_X10_newFigure 0 p1 p2 p3 p4 p5 N = some (nI n, addN N n p1 p2 p3 p4 p5) := by
  unfold f_X10_newFigure f_X10_figureAt addN
  simp only [vv_d, mm_d, jn_d, bd_d, bd_i, r2_0_0, r2_0_1, r2_0_2, r2_0_4, r2_0_5, r2_0_6, r2_0_7, r2_0_8, r2_0_9, r2_0_10, r2_0_11, r2_0_12, r2_0_24, r2_0_25, r2_0_28, r2_0_29, r2_0_30, r2_0_34, r2_0_35, r2_0_36, r2_0_38, ld_1, st_1]
  rw [h, st_n (30 + 6 * n) (fx0 n) (by omega) (by decide), st_n (31 + 6 * n) (fx1 n) (by omega) (by decide), st_n (32 + 6 * n) (fx2 n) (by omega) (by decide), st_n (33 + 6 * n) (fx3 n) (by omega) (by decide), st_n (34 + 6 * n) (fx4 n) (by omega) (by decide), st_n (35 + 6 * n) (fx5 n) (by omega) (by decide)]
  rw [up_same, up_k _ _ _ _ _ (show 1 ≠ 35 + 6 * n by omega), up_k _ _ _ _ _ (show 1 ≠ 34 + 6 * n by omega), up_k _ _ _ _ _ (show 1 ≠ 33 + 6 * n by omega), up_k _ _ _ _ _ (show 1 ≠ 32 + 6 * n by omega), up_k _ _ _ _ _ (show 1 ≠ 31 + 6 * n by omega), up_k _ _ _ _ _ (show 1 ≠ 30 + 6 * n by omega), h, nI_1, nmx]
theorem addN_e (N : Mem) (n : Nat) (p1 p2 p3 p4 p5 : Int32) (j : Nat) (h1 : j ≠ 1) (h2 : j < 30 + 6 * n ∨ 36 + 6 * n ≤ j) : addN N n p1 p2 p3 p4 p5 1 j = N 1 j := by
  unfold addN
  rw [up_k _ _ _ _ _ h1, up_k _ _ _ _ _ (by omega), up_k _ _ _ _ _ (by omega), up_k _ _ _ _ _ (by omega), up_k _ _ _ _ _ (by omega), up_k _ _ _ _ _ (by omega), up_k _ _ _ _ _ (by omega)]
theorem addM_e (M : Mem) (n : Nat) (p1 p2 p3 p4 p5 : Int32) (a : Nat) (h : a ≠ 2 ∧ (a < 4 ∨ 9 ≤ a)) : addM M n p1 p2 p3 p4 p5 a = M a := by
  unfold addM
  rw [up_ne (by omega), up_ne (by omega), up_ne (by omega), up_ne (by omega), up_ne (by omega), up_ne (by omega)]
theorem addM_k (M : Mem) (n : Nat) (p1 p2 p3 p4 p5 : Int32) (a j : Nat) (ha : a ≠ 2) (h : j ≠ n) : addM M n p1 p2 p3 p4 p5 a j = M a j := by
  simp [addM, up_i, ha, h]
theorem add_RS {nT nF nX nC nE nL nS : Nat} {M N : Mem} (h : RS nT nF nX nC nE nL nS M 1 (N 1)) (hn : nF < 40) {p1 p2 p3 p4 p5 : Int32} (h1 : Rg p1 nT) (h2 : Rg p2 8) (h3 : Rg p3 10000) (h4 : Rg p4 1000 ∧ p4 ≠ 0) (h5 : p5 = -1 ∨ Rg p5 nF) : RS nT (nF + 1) nX nC nE nL nS (addM M nF p1 p2 p3 p4 p5) 1 (addN N nF p1 p2 p3 p4 p5 1) := by
  obtain ⟨hT, hF, hX, hL, hC, hR, hD, hN, hO, hZ⟩ := h
  have e := addN_e N nF p1 p2 p3 p4 p5
  have mk := addM_k M nF p1 p2 p3 p4 p5
  refine ⟨hT.cg (fun j hj => e j (by omega) (by omega)), ?_, hX.cg (fun j hj => e j (by omega) (by omega)), ?_, ?_, hR.cg (fun j hj => e j (by omega) (by omega)), hD.cg (fun j hj => e j (by omega) (by omega)), hN.cg (fun j hj => e j (by omega) (by omega)), hO.cg (fun j hj => e j (by omega) (by omega)), hZ.cg (fun j hj => e j (by omega) (by omega))⟩
  · obtain ⟨f1, f2, f3, f4⟩ := hF
    refine ⟨rfl, up_same _ _ _ _, by omega, fun f hf => ?_⟩
    show (addN N nF p1 p2 p3 p4 p5 1 (30 + 6 * f) = addM M nF p1 p2 p3 p4 p5 4 f ∧ addN N nF p1 p2 p3 p4 p5 1 (31 + 6 * f) = addM M nF p1 p2 p3 p4 p5 5 f ∧ addN N nF p1 p2 p3 p4 p5 1 (32 + 6 * f) = addM M nF p1 p2 p3 p4 p5 6 f ∧ addN N nF p1 p2 p3 p4 p5 1 (33 + 6 * f) = addM M nF p1 p2 p3 p4 p5 7 f ∧ addN N nF p1 p2 p3 p4 p5 1 (34 + 6 * f) = addM M nF p1 p2 p3 p4 p5 8 f) ∧ Rg (addM M nF p1 p2 p3 p4 p5 4 f) nT ∧ Rg (addM M nF p1 p2 p3 p4 p5 5 f) 8 ∧ Rg (addM M nF p1 p2 p3 p4 p5 6 f) 10000 ∧ (Rg (addM M nF p1 p2 p3 p4 p5 7 f) 1000 ∧ addM M nF p1 p2 p3 p4 p5 7 f ≠ 0) ∧ (addM M nF p1 p2 p3 p4 p5 8 f = -1 ∨ Rg (addM M nF p1 p2 p3 p4 p5 8 f) f)
    by_cases hfn : f = nF
    · subst hfn
      have m4 : addM M f p1 p2 p3 p4 p5 4 f = p1 := by simp [addM, up_i]
      have m5 : addM M f p1 p2 p3 p4 p5 5 f = p2 := by simp [addM, up_i]
      have m6 : addM M f p1 p2 p3 p4 p5 6 f = p3 := by simp [addM, up_i]
      have m7 : addM M f p1 p2 p3 p4 p5 7 f = p4 := by simp [addM, up_i]
      have m8 : addM M f p1 p2 p3 p4 p5 8 f = p5 := by simp [addM, up_i]
      rw [m4, m5, m6, m7, m8]
      refine ⟨⟨?_, ?_, ?_, ?_, ?_⟩, h1, h2, h3, h4, h5⟩
      · unfold addN
        rw [up_k _ _ _ _ _ (show 30 + 6 * f ≠ 1 by omega), up_k _ _ _ _ _ (show 30 + 6 * f ≠ 35 + 6 * f by omega), up_k _ _ _ _ _ (show 30 + 6 * f ≠ 34 + 6 * f by omega), up_k _ _ _ _ _ (show 30 + 6 * f ≠ 33 + 6 * f by omega), up_k _ _ _ _ _ (show 30 + 6 * f ≠ 32 + 6 * f by omega), up_k _ _ _ _ _ (show 30 + 6 * f ≠ 31 + 6 * f by omega), up_same]
      · unfold addN
        rw [up_k _ _ _ _ _ (show 31 + 6 * f ≠ 1 by omega), up_k _ _ _ _ _ (show 31 + 6 * f ≠ 35 + 6 * f by omega), up_k _ _ _ _ _ (show 31 + 6 * f ≠ 34 + 6 * f by omega), up_k _ _ _ _ _ (show 31 + 6 * f ≠ 33 + 6 * f by omega), up_k _ _ _ _ _ (show 31 + 6 * f ≠ 32 + 6 * f by omega), up_same]
      · unfold addN
        rw [up_k _ _ _ _ _ (show 32 + 6 * f ≠ 1 by omega), up_k _ _ _ _ _ (show 32 + 6 * f ≠ 35 + 6 * f by omega), up_k _ _ _ _ _ (show 32 + 6 * f ≠ 34 + 6 * f by omega), up_k _ _ _ _ _ (show 32 + 6 * f ≠ 33 + 6 * f by omega), up_same]
      · unfold addN
        rw [up_k _ _ _ _ _ (show 33 + 6 * f ≠ 1 by omega), up_k _ _ _ _ _ (show 33 + 6 * f ≠ 35 + 6 * f by omega), up_k _ _ _ _ _ (show 33 + 6 * f ≠ 34 + 6 * f by omega), up_same]
      · unfold addN
        rw [up_k _ _ _ _ _ (show 34 + 6 * f ≠ 1 by omega), up_k _ _ _ _ _ (show 34 + 6 * f ≠ 35 + 6 * f by omega), up_same]
    · rw [e (30 + 6 * f) (by omega) (by omega), e (31 + 6 * f) (by omega) (by omega), e (32 + 6 * f) (by omega) (by omega), e (33 + 6 * f) (by omega) (by omega), e (34 + 6 * f) (by omega) (by omega), mk 4 f (by decide) hfn, mk 5 f (by decide) hfn, mk 6 f (by decide) hfn, mk 7 f (by decide) hfn, mk 8 f (by decide) hfn]
      exact f4 f (by omega)
  · obtain ⟨l1, l2⟩ := hL
    refine ⟨fun l hl => ?_, fun f hf => ?_⟩
    · obtain ⟨k, a1, a2, a3, a4, a5⟩ := l1 l hl
      refine ⟨k, a1, a2, (e (270 + 13 * l) (by omega) (by omega)).trans a3, fun i hi => ?_, fun i hi f f' g1 g2 g3 g4 => ?_⟩
      · obtain ⟨f, b1, b2, b3, b4⟩ := a4 i hi
        exact ⟨f, by omega, b2, (e (271 + 13 * l + i) (by omega) (by omega)).trans b3, (e (35 + 6 * f) (by omega) (by omega)).trans b4⟩
      · obtain ⟨x, b1, b2, b3, b4⟩ := a4 i (by omega)
        obtain ⟨x', c1, c2, c3, c4⟩ := a4 (i + 1) (by omega)
        have ex : x = f := (nI_eq (by omega) (by omega)).mp (b2.symm.trans g1)
        have ex' : x' = f' := (nI_eq (by omega) (by omega)).mp (c2.symm.trans g2)
        subst ex
        subst ex'
        show addM M nF p1 p2 p3 p4 p5 4 x < addM M nF p1 p2 p3 p4 p5 4 x'
        rw [mk 4 x (by decide) (by omega), mk 4 x' (by decide) (by omega)]
        exact a5 i hi x x' b2 c2 b1 c1
    · by_cases hfn : f = nF
      · subst hfn
        refine Or.inl ⟨?_, fun l i hl hi hi2 q => ?_⟩
        · unfold addN
          rw [up_k _ _ _ _ _ (show 35 + 6 * f ≠ 1 by omega), up_same]
        · obtain ⟨k, a1, a2, a3, a4, a5⟩ := l1 l hl
          have hi3 : nI i < M (1 + 16) l := hi
          rw [a2] at hi3
          obtain ⟨x, b1, b2, b3, b4⟩ := a4 i ((nI_ltI (by omega) (by omega)).mp hi3)
          have : x = f := (nI_eq (by omega) (by omega)).mp (b2.symm.trans q)
          omega
      · rw [e (35 + 6 * f) (by omega) (by omega)]
        exact l2 f (by omega)
  · obtain ⟨c1, c2, c3, c4⟩ := hC
    refine RC.cg (g := N 1) ⟨c1, c2, c3, fun k hk => ?_⟩ (fun j hj => e j (by omega) (by omega))
    obtain ⟨a1, x, hx, ex⟩ := c4 k hk
    exact ⟨a1, x, by omega, ex⟩
theorem s_hasTable (o : Nat) (p : Int32) (M : Mem) : f_X0_hasTable o p M = some (b2 (0 ≤ p ∧ p < M o 0), M) := by
  unfold f_X0_hasTable b2
  simp only [vv_d, mm_d, jn_d, bd_d, bd_i]
  by_cases h1 : p < 0
  · rw [if_pos h1, if_neg (fun q => Int32.not_lt.mpr q.1 h1)]
  · rw [if_neg h1]
    by_cases h2 : p < M o 0
    · rw [if_pos h2, if_pos ⟨Int32.not_lt.mp h1, h2⟩]
    · rw [if_neg h2, if_neg (fun q => h2 q.2)]
theorem s_isTable (p : Int32) (N : Mem) : f_X10_isTable 0 p N = some (b2 (0 ≤ p ∧ p ≤ N 1 0 - 1), N) := by
  unfold f_X10_isTable
  simp only [vv_d, mm_d, jn_d, bd_d, bd_i, r2_0_0, r2_0_1, r2_0_2, r2_0_4, r2_0_5, r2_0_6, r2_0_7, r2_0_8, r2_0_9, r2_0_10, r2_0_11, r2_0_12, r2_0_24, r2_0_25, r2_0_28, r2_0_29, r2_0_30, r2_0_34, r2_0_35, r2_0_36, r2_0_38, ld_0, s_isInL p 0 (Int32.toInt64 (N 1 0 - 1)) 0 (N 1 0 - 1) N rfl rfl]
theorem s_arePairs (p : Int32) (M : Mem) : f_X9_arePairs p M = some (b2 (1 ≤ p ∧ p ≤ 999), M) := by
  unfold f_X9_arePairs
  simp only [s_within, vv_d, mm_d, jn_d, bd_d, bd_i]
theorem s_isPairs (p : Int32) (M : Mem) : f_X10_isPairs p M = some (b2 (1 ≤ p ∧ p ≤ 999), M) := by
  unfold f_X10_isPairs
  simp only [vv_d, mm_d, jn_d, bd_d, bd_i, s_isInL p 1 999 1 999 M rfl rfl]
theorem pairs_rg {p : Int32} (h : 1 ≤ p ∧ p ≤ 999) : Rg p 1000 ∧ p ≠ 0 := by
  have h1 : (1 : Int) ≤ p.toInt := Int32.le_iff_toInt_le.mp h.1
  refine ⟨rg_of (n := 999) rfl (Int32.le_iff_toInt_le.mpr (by show (0 : Int) ≤ p.toInt; omega)) h.2, fun q => ?_⟩
  rw [q] at h1
  exact absurd h1 (by decide)
theorem inv_add {nT nF nX nC nE nL nS : Nat} {M N : Mem} (h : Inv M N) (hR : RS nT nF nX nC nE nL nS M 1 (N 1)) (hn : nF < 40) {p1 p2 p3 p4 p5 : Int32} (h1 : Rg p1 nT) (h2 : Rg p2 8) (h3 : Rg p3 10000) (h4 : Rg p4 1000 ∧ p4 ≠ 0) (h5 : p5 = -1 ∨ Rg p5 nF) : Inv (addM M nF p1 p2 p3 p4 p5) (addN N nF p1 p2 p3 p4 p5) :=
  inv_now h (fun a ha => addM_e _ _ _ _ _ _ _ a (by omega)) rfl rfl rfl (fun a ha => by unfold addN; rw [up_ne (by omega), up_ne (by omega), up_ne (by omega), up_ne (by omega), up_ne (by omega), up_ne (by omega), up_ne (by omega)]) ⟨nT, nF + 1, nX, nC, nE, nL, nS, add_RS hR hn h1 h2 h3 h4 h5⟩
theorem op_figure : ∀ (p1 p2 p3 p4 p5 : Int32) (M N : Mem), Inv M N → ∃ r M' N', f_X9_figure 0 p1 p2 p3 p4 p5 M = some (r, M') ∧ f_X10_figure 0 p1 p2 p3 p4 p5 N = some (r, N') ∧ Inv M' N' := by
  intro p1 p2 p3 p4 p5 M N h
  obtain ⟨nT, nF, nX, nC, nE, nL, nS, hRS⟩ := h.1
  obtain ⟨hT, hF, hX, hL, hC, hR, hD, hN, hO, hZ⟩ := id hRS
  obtain ⟨f1, f2, f3, f4⟩ := id hF
  obtain ⟨t1, t2, t3, t4, t5⟩ := id hT
  have f1 : M 2 2 = nI nF := f1
  have t1 : M 2 0 = nI nT := t1
  unfold f_X9_figure f_X10_figure f_X10_figureAt
  simp only [s_has, s_hasTable, s_isTable, s_isFigure, s_isKind, s_within, s_arePairs, s_isPairs, vv_d, mm_d, jn_d, bd_d, bd_i, r1_0_0, r1_0_1, r1_0_3, r1_0_4, r1_0_6, r1_0_7, r1_1_0, r1_1_1, r1_1_2, r1_1_3, r1_1_4, r1_1_5, r1_1_9, r1_2_1, r1_2_3, r1_2_4, r1_2_5, r1_2_6, r1_2_7, r1_9_1, r1_9_2, r1_9_3, r1_9_4, r1_9_5, r1_9_6, r1_16_0, r1_16_1, r1_19_0, r1_19_2, r1_19_3, r1_19_4, r1_24_1, r1_24_2, r1_24_3, r1_24_5, r1_61_0, r1_61_6, r2_0_0, r2_0_1, r2_0_2, r2_0_4, r2_0_5, r2_0_6, r2_0_7, r2_0_8, r2_0_9, r2_0_10, r2_0_11, r2_0_12, r2_0_24, r2_0_25, r2_0_28, r2_0_29, r2_0_30, r2_0_34, r2_0_35, r2_0_36, r2_0_38, if_b2, ld_1, s_isInL p2 0 7 0 7 N rfl rfl, s_isInL p3 0 9999 0 9999 N rfl rfl]
  simp only [f1, f2, t1, t2]
  by_cases h1 : Rg p1 nT
  case neg =>
    rw [if_neg (fun z => h1 ((rg_lt (by omega)).mp z)), if_neg (fun z => h1 ((rg_le (by omega)).mp z))]
    exact ⟨_, M, N, rfl, rfl, h⟩
  rw [if_pos ((rg_lt (by omega)).mpr h1), if_pos ((rg_le (by omega)).mpr h1)]
  by_cases h2 : 0 ≤ p2 ∧ p2 ≤ 7
  case neg =>
    rw [if_neg h2, if_neg h2]
    exact ⟨_, M, N, rfl, rfl, h⟩
  rw [if_pos h2, if_pos h2]
  by_cases h3 : 0 ≤ p3 ∧ p3 ≤ 9999
  case neg =>
    rw [if_neg h3, if_neg h3]
    exact ⟨_, M, N, rfl, rfl, h⟩
  rw [if_pos h3, if_pos h3]
  by_cases h4 : 1 ≤ p4 ∧ p4 ≤ 999
  case neg =>
    rw [if_neg h4, if_neg h4]
    exact ⟨_, M, N, rfl, rfl, h⟩
  rw [if_pos h4, if_pos h4]
  -- what comes last, once the figure may come
  have last : (p5 = -1 ∨ Rg p5 nF) → ∃ r M' N', (if nI nF < 40 then bd (f_X0_add 2 p1 p2 p3 p4 p5 M) fun x9 M => some (x9, M) else some ((-1000000003), M)) = some (r, M') ∧ (if nI nF = 40 then some ((-1000000003), N) else bd (f_X10_newFigure 0 p1 p2 p3 p4 p5 N) fun x8 M => some (x8, M)) = some (r, N') ∧ Inv M' N' := by
    intro h5
    by_cases hf : nF = 40
    · rw [hf]
      exact ⟨_, M, N, rfl, rfl, h⟩
    · rw [if_pos (show nI (nF) < 40 from nI_lt (a := nF) (b := 40) (by omega) (by decide)), if_neg (show ¬ nI (nF) = 40 from fun q => absurd ((nI_eq (a := nF) (b := 40) (by omega) (by decide)).mp q) (by omega)), x_add nF p1 p2 p3 p4 p5 M f1 (by omega), y_new nF p1 p2 p3 p4 p5 N f2 (by omega)]
      exact ⟨_, _, _, rfl, rfl, inv_add h hRS (by omega) h1 (rg_of (n := 7) rfl h2.1 h2.2) (rg_of (n := 9999) rfl h3.1 h3.2) (pairs_rg h4) h5⟩
  by_cases h5 : p5 = -1
  · rw [if_pos h5, if_pos h5]
    exact last (Or.inl h5)
  rw [if_neg h5, if_neg h5]
  by_cases h6 : Rg p5 nF
  case neg =>
    rw [if_neg (fun z => h6 ((rg_lt (by omega)).mp z)), if_neg (fun z => h6 ((rg_le (by omega)).mp z))]
    exact ⟨_, M, N, rfl, rfl, h⟩
  rw [if_pos ((rg_lt (by omega)).mpr h6), if_pos ((rg_le (by omega)).mpr h6)]
  obtain ⟨q, hq, rfl⟩ := id h6
  obtain ⟨⟨a1, a2, a3, a4, a5⟩, b1⟩ := f4 q hq
  rw [ld_n q rfl (by omega) (by decide), ld_n (30 + 6 * q) (fx0 q) (by omega) (by decide), a1]
  by_cases h7 : p1 < M (1 + 3) q
  · rw [if_pos (show p1 < M 4 q from h7), if_pos h7]
    exact ⟨_, M, N, rfl, rfl, h⟩
  · rw [if_neg (show ¬ p1 < M 4 q from h7), if_neg h7]
    exact last (Or.inr h6)
