theorem rg_lt {p : Int32} {n : Nat} (hn : n < 2 ^ 31) : (0 ≤ p ∧ p < nI n) ↔ Rg p n := by
  constructor
  · rintro ⟨h1, h2⟩
    obtain ⟨j, hj, rfl⟩ := nI_of (fun q => Int32.not_lt.mpr h1 q)
    exact ⟨j, (nI_ltI hj hn).mp h2, rfl⟩
  · rintro ⟨k, hk, rfl⟩
    exact ⟨nI_pos' (by omega), nI_lt hk hn⟩
theorem rg_le {p : Int32} {n : Nat} (hn : n < 2 ^ 30) : (0 ≤ p ∧ p ≤ nI n - 1) ↔ Rg p n := by
  have e : (nI n - 1).toInt = (n : Int) - 1 := pk_sub_toInt (a := n) (b := 1) hn (by decide)
  constructor
  · rintro ⟨h1, h2⟩
    obtain ⟨j, hj, rfl⟩ := nI_of (fun q => Int32.not_lt.mpr h1 q)
    have h3 := Int32.le_iff_toInt_le.mp h2
    rw [e, nI_toInt hj] at h3
    exact ⟨j, by omega, rfl⟩
  · rintro ⟨k, hk, rfl⟩
    refine ⟨nI_pos' (by omega), Int32.le_iff_toInt_le.mpr ?_⟩
    rw [e, nI_toInt (by omega)]
    omega
theorem rg_lit {p c : Int32} {n : Nat} (hc : c.toInt = (n : Int)) (hn : n < 2 ^ 31) : (0 ≤ p ∧ p ≤ c) ↔ Rg p (n + 1) := by
  constructor
  · rintro ⟨h1, h2⟩
    exact rg_of hc h1 h2
  · rintro ⟨k, hk, rfl⟩
    refine ⟨nI_pos' (by omega), Int32.le_iff_toInt_le.mpr ?_⟩
    rw [hc, nI_toInt (by omega)]
    omega
theorem s_has (o : Nat) (p : Int32) (M : Mem) : f_X0_has o p M = some (b2 (0 ≤ p ∧ p < M o 2), M) := by
  unfold f_X0_has b2
  simp only [vv_d, mm_d, jn_d, bd_d, bd_i]
  by_cases h1 : p < 0
  · rw [if_pos h1, if_neg (fun q => Int32.not_lt.mpr q.1 h1)]
  · rw [if_neg h1]
    by_cases h2 : p < M o 2
    · rw [if_pos h2, if_pos ⟨Int32.not_lt.mp h1, h2⟩]
    · rw [if_neg h2, if_neg (fun q => h2 q.2)]
theorem s_isFigure (p : Int32) (N : Mem) : f_X10_isFigure 0 p N = some (b2 (0 ≤ p ∧ p ≤ N 1 1 - 1), N) := by
  unfold f_X10_isFigure
  simp only [vv_d, mm_d, jn_d, bd_d, bd_i, r2_0_0, r2_0_1, r2_0_2, r2_0_4, r2_0_5, r2_0_6, r2_0_7, r2_0_8, r2_0_9, r2_0_10, r2_0_11, r2_0_12, r2_0_24, r2_0_25, r2_0_28, r2_0_29, r2_0_30, r2_0_34, r2_0_35, r2_0_36, r2_0_38, ld_1, s_isInL p 0 (Int32.toInt64 (N 1 1 - 1)) 0 (N 1 1 - 1) N rfl rfl]
theorem s_isKind (p : Int32) (M : Mem) : f_X9_isKind p M = some (b2 (0 ≤ p ∧ p ≤ 7), M) := by
  unfold f_X9_isKind
  simp only [s_within, vv_d, mm_d, jn_d, bd_d, bd_i]
theorem s_isPlace (p : Int32) (M : Mem) : f_X9_isPlace p M = some (b2 (0 ≤ p ∧ p ≤ 5), M) := by
  unfold f_X9_isPlace
  simp only [s_within, vv_d, mm_d, jn_d, bd_d, bd_i]
theorem y_isPlace (p : Int32) (M : Mem) : f_X10_isPlace p M = some (b2 (0 ≤ p ∧ p ≤ 5), M) := by
  unfold f_X10_isPlace
  simp only [vv_d, mm_d, jn_d, bd_d, bd_i, s_isInL p 0 5 0 5 M rfl rfl]
theorem fx0 (f : Nat) : 30 + 6 * nI f = nI (30 + 6 * f) := by
  rw [show (6 : Int32) * nI f = nI (6 * f) from pk_mul 6 f]
  exact nI_add 30 (6 * f)
theorem fx1 (f : Nat) : 30 + 6 * nI f + 1 = nI (31 + 6 * f) := by
  rw [fx0, show nI (30 + 6 * f) + 1 = nI (30 + 6 * f + 1) from nI_add _ 1, show 30 + 6 * f + 1 = 31 + 6 * f by omega]
theorem fx2 (f : Nat) : 30 + 6 * nI f + 2 = nI (32 + 6 * f) := by
  rw [fx0, show nI (30 + 6 * f) + 2 = nI (30 + 6 * f + 2) from nI_add _ 2, show 30 + 6 * f + 2 = 32 + 6 * f by omega]
theorem fx3 (f : Nat) : 30 + 6 * nI f + 3 = nI (33 + 6 * f) := by
  rw [fx0, show nI (30 + 6 * f) + 3 = nI (30 + 6 * f + 3) from nI_add _ 3, show 30 + 6 * f + 3 = 33 + 6 * f by omega]
theorem fx4 (f : Nat) : 30 + 6 * nI f + 4 = nI (34 + 6 * f) := by
  rw [fx0, show nI (30 + 6 * f) + 4 = nI (30 + 6 * f + 4) from nI_add _ 4, show 30 + 6 * f + 4 = 34 + 6 * f by omega]
theorem fx5 (f : Nat) : 30 + 6 * nI f + 5 = nI (35 + 6 * f) := by
  rw [fx0, show nI (30 + 6 * f) + 5 = nI (30 + 6 * f + 5) from nI_add _ 5, show 30 + 6 * f + 5 = 35 + 6 * f by omega]
theorem s_isOfKind : ∀ k, k < 8 → ∀ p, p < 8 → ∀ M : Mem, f_X9_isOfKind (nI k) (nI p) M = f_X10_isOf (nI k) (nI p) M := by
  intro k hk p hp M
  rcases (show k = 0 ∨ k = 1 ∨ k = 2 ∨ k = 3 ∨ k = 4 ∨ k = 5 ∨ k = 6 ∨ k = 7 by omega) with rfl | rfl | rfl | rfl | rfl | rfl | rfl | rfl <;> rcases (show p = 0 ∨ p = 1 ∨ p = 2 ∨ p = 3 ∨ p = 4 ∨ p = 5 ∨ p = 6 ∨ p = 7 by omega) with rfl | rfl | rfl | rfl | rfl | rfl | rfl | rfl <;> rfl
theorem isOf_val : ∀ k, k < 8 → ∀ p, p < 8 → ∀ M : Mem, ∃ r, f_X10_isOf (nI k) (nI p) M = some (r, M) := by
  intro k hk p hp M
  rcases (show k = 0 ∨ k = 1 ∨ k = 2 ∨ k = 3 ∨ k = 4 ∨ k = 5 ∨ k = 6 ∨ k = 7 by omega) with rfl | rfl | rfl | rfl | rfl | rfl | rfl | rfl <;> rcases (show p = 0 ∨ p = 1 ∨ p = 2 ∨ p = 3 ∨ p = 4 ∨ p = 5 ∨ p = 6 ∨ p = 7 by omega) with rfl | rfl | rfl | rfl | rfl | rfl | rfl | rfl <;> exact ⟨_, rfl⟩
theorem op_as : ∀ (p q : Int32) (M N : Mem), Inv M N → ∃ r M' N', f_X9_as 0 p q M = some (r, M') ∧ f_X10_as 0 p q N = some (r, N') ∧ Inv M' N' := by
  intro p q M N h
  obtain ⟨nT, nF, nX, nC, nE, nL, nS, hT, hF, hX, hL, hC, hR, hD, hN, hO, hZ⟩ := h.1
  obtain ⟨f1, f2, f3, f4⟩ := id hF
  have f1 : M 2 2 = nI nF := f1
  unfold f_X9_as f_X10_as f_X10_figureAt
  simp only [s_has, s_isFigure, s_isKind, vv_d, mm_d, jn_d, bd_d, bd_i, r1_0_0, r1_0_1, r1_0_3, r1_0_4, r1_0_6, r1_0_7, r1_1_0, r1_1_1, r1_1_2, r1_1_3, r1_1_4, r1_1_5, r1_1_9, r1_2_1, r1_2_3, r1_2_4, r1_2_5, r1_2_6, r1_2_7, r1_9_1, r1_9_2, r1_9_3, r1_9_4, r1_9_5, r1_9_6, r1_16_0, r1_16_1, r1_19_0, r1_19_2, r1_19_3, r1_19_4, r1_24_1, r1_24_2, r1_24_3, r1_24_5, r1_61_0, r1_61_6, r2_0_0, r2_0_1, r2_0_2, r2_0_4, r2_0_5, r2_0_6, r2_0_7, r2_0_8, r2_0_9, r2_0_10, r2_0_11, r2_0_12, r2_0_24, r2_0_25, r2_0_28, r2_0_29, r2_0_30, r2_0_34, r2_0_35, r2_0_36, r2_0_38, if_b2, s_isInL q 0 7 0 7 N rfl rfl]
  simp only [f1, f2]
  by_cases hp : Rg p nF
  · rw [if_pos ((rg_lt (by omega)).mpr hp), if_pos ((rg_le (by omega)).mpr hp)]
    by_cases hq : Rg q 8
    · rw [if_pos ((rg_lit (c := 7) (n := 7) rfl (by decide)).mpr hq), if_pos ((rg_lit (c := 7) (n := 7) rfl (by decide)).mpr hq)]
      obtain ⟨f, hf, rfl⟩ := hp
      obtain ⟨k, hk, rfl⟩ := hq
      obtain ⟨⟨a1, a2, a3, a4, a5⟩, b1, ⟨kd, c1, c2⟩, b3, b4, b5⟩ := f4 f hf
      rw [ld_n f rfl (by omega) (by decide), ld_n (31 + 6 * f) (fx1 f) (by omega) (by decide), a2]
      show ∃ r M' N', bd (f_X9_isOfKind (M (1 + 4) f) (nI k) M) _ = some (r, M') ∧ bd (f_X10_isOf (M (1 + 4) f) (nI k) N) _ = some (r, N') ∧ Inv M' N'
      rw [c2, s_isOfKind kd c1 k hk M]
      obtain ⟨r1, e1⟩ := isOf_val kd c1 k hk M
      obtain ⟨r2, e2⟩ := isOf_val kd c1 k hk N
      have e12 : r1 = r2 := by
        have : (f_X10_isOf (nI kd) (nI k) M).map (fun z => z.1) = (f_X10_isOf (nI kd) (nI k) N).map (fun z => z.1) := by
          rcases (show kd = 0 ∨ kd = 1 ∨ kd = 2 ∨ kd = 3 ∨ kd = 4 ∨ kd = 5 ∨ kd = 6 ∨ kd = 7 by omega) with rfl | rfl | rfl | rfl | rfl | rfl | rfl | rfl <;> rcases (show k = 0 ∨ k = 1 ∨ k = 2 ∨ k = 3 ∨ k = 4 ∨ k = 5 ∨ k = 6 ∨ k = 7 by omega) with rfl | rfl | rfl | rfl | rfl | rfl | rfl | rfl <;> rfl
        rw [e1, e2] at this
        exact Option.some.inj this
      rw [e1, e2]
      simp only [vv_d, mm_d, jn_d, bd_d, bd_i]
      subst e12
      by_cases hr : r1 = 0
      · rw [if_pos hr, if_pos hr]
        exact ⟨_, M, N, rfl, rfl, h⟩
      · rw [if_neg hr, if_neg hr, ld_n f rfl (by omega) (by decide), ld_n (32 + 6 * f) (fx2 f) (by omega) (by decide), a3]
        exact ⟨_, M, N, rfl, rfl, h⟩
    · rw [if_neg (fun z => hq ((rg_lit (c := 7) (n := 7) rfl (by decide)).mp z)), if_neg (fun z => hq ((rg_lit (c := 7) (n := 7) rfl (by decide)).mp z))]
      exact ⟨_, M, N, rfl, rfl, h⟩
  · rw [if_neg (fun z => hp ((rg_lt (by omega)).mp z)), if_neg (fun z => hp ((rg_le (by omega)).mp z))]
    exact ⟨_, M, N, rfl, rfl, h⟩
theorem op_turns : ∀ (p q : Int32) (M N : Mem), Inv M N → ∃ r M' N', f_X9_turns 0 p q M = some (r, M') ∧ f_X10_turns 0 p q N = some (r, N') ∧ Inv M' N' := by
  intro p q M N h
  obtain ⟨nT, nF, nX, nC, nE, nL, nS, hT, hF, hX, hL, hC, hR, hD, hN, hO, hZ⟩ := h.1
  obtain ⟨f1, f2, f3, f4⟩ := id hF
  have f1 : M 2 2 = nI nF := f1
  unfold f_X9_turns f_X10_turns f_X10_figureAt
  simp only [s_has, s_isFigure, s_isKind, vv_d, mm_d, jn_d, bd_d, bd_i, r1_0_0, r1_0_1, r1_0_3, r1_0_4, r1_0_6, r1_0_7, r1_1_0, r1_1_1, r1_1_2, r1_1_3, r1_1_4, r1_1_5, r1_1_9, r1_2_1, r1_2_3, r1_2_4, r1_2_5, r1_2_6, r1_2_7, r1_9_1, r1_9_2, r1_9_3, r1_9_4, r1_9_5, r1_9_6, r1_16_0, r1_16_1, r1_19_0, r1_19_2, r1_19_3, r1_19_4, r1_24_1, r1_24_2, r1_24_3, r1_24_5, r1_61_0, r1_61_6, r2_0_0, r2_0_1, r2_0_2, r2_0_4, r2_0_5, r2_0_6, r2_0_7, r2_0_8, r2_0_9, r2_0_10, r2_0_11, r2_0_12, r2_0_24, r2_0_25, r2_0_28, r2_0_29, r2_0_30, r2_0_34, r2_0_35, r2_0_36, r2_0_38, if_b2, s_isInL q 0 7 0 7 N rfl rfl]
  simp only [f1, f2]
  by_cases hp : Rg p nF
  · rw [if_pos ((rg_lt (by omega)).mpr hp), if_pos ((rg_le (by omega)).mpr hp)]
    by_cases hq : Rg q 8
    · rw [if_pos ((rg_lit (c := 7) (n := 7) rfl (by decide)).mpr hq), if_pos ((rg_lit (c := 7) (n := 7) rfl (by decide)).mpr hq)]
      obtain ⟨f, hf, rfl⟩ := hp
      obtain ⟨⟨a1, a2, a3, a4, a5⟩, b1, b2, b3, b4, b5⟩ := f4 f hf
      rw [ld_n f rfl (by omega) (by decide), st_n f rfl (by omega) (by decide), y_becomes (31 + 6 * f) _ q N (fx1 f) (by omega), a2]
      simp only [vv_d, mm_d, jn_d, bd_d, bd_i]
      have e : ∀ j, j ≠ 31 + 6 * f → up N 1 (31 + 6 * f) q 1 j = N 1 j := fun j h1 => up_k _ _ _ _ _ h1
      refine ⟨_, _, _, rfl, rfl, inv_now h (fun a ha => up_ne (by omega)) rfl rfl rfl (fun a ha => up_ne (by omega)) ⟨nT, nF, nX, nC, nE, nL, nS, hT.cg (fun j hj => e j (by omega)), ?_, hX.cg (fun j hj => e j (by omega)), hL.cg hF.2.2.1 (fun j hj => e j (by omega)), hC.cg (fun j hj => e j (by omega)), hR.cg (fun j hj => e j (by omega)), hD.cg (fun j hj => e j (by omega)), hN.cg (fun j hj => e j (by omega)), hO.cg (fun j hj => e j (by omega)), hZ.cg (fun j hj => e j (by omega))⟩⟩
      refine ⟨f1, by rw [e 1 (by omega)]; exact f2, f3, fun g hg => ?_⟩
      obtain ⟨⟨c1, c2, c3, c4, c5⟩, d1, d2, d3, d4, d5⟩ := f4 g hg
      show (up N 1 (31 + 6 * f) q 1 (30 + 6 * g) = M 4 g ∧ up N 1 (31 + 6 * f) q 1 (31 + 6 * g) = up M 5 f q 5 g ∧ up N 1 (31 + 6 * f) q 1 (32 + 6 * g) = M 6 g ∧ up N 1 (31 + 6 * f) q 1 (33 + 6 * g) = M 7 g ∧ up N 1 (31 + 6 * f) q 1 (34 + 6 * g) = M 8 g) ∧ Rg (M 4 g) nT ∧ Rg (up M 5 f q 5 g) 8 ∧ Rg (M 6 g) 10000 ∧ (Rg (M 7 g) 1000 ∧ M 7 g ≠ 0) ∧ (M 8 g = -1 ∨ Rg (M 8 g) g)
      rw [e _ (show 30 + 6 * g ≠ 31 + 6 * f by omega), e _ (show 32 + 6 * g ≠ 31 + 6 * f by omega), e _ (show 33 + 6 * g ≠ 31 + 6 * f by omega), e _ (show 34 + 6 * g ≠ 31 + 6 * f by omega)]
      by_cases hgf : g = f
      · subst hgf
        rw [up_same, up_same]
        exact ⟨⟨c1, rfl, c3, c4, c5⟩, d1, hq, d3, d4, d5⟩
      · rw [e _ (show 31 + 6 * g ≠ 31 + 6 * f by omega), up_k _ _ _ _ _ hgf]
        exact ⟨⟨c1, c2, c3, c4, c5⟩, d1, d2, d3, d4, d5⟩
    · rw [if_neg (fun z => hq ((rg_lit (c := 7) (n := 7) rfl (by decide)).mp z)), if_neg (fun z => hq ((rg_lit (c := 7) (n := 7) rfl (by decide)).mp z))]
      exact ⟨_, M, N, rfl, rfl, h⟩
  · rw [if_neg (fun z => hp ((rg_lt (by omega)).mp z)), if_neg (fun z => hp ((rg_le (by omega)).mp z))]
    exact ⟨_, M, N, rfl, rfl, h⟩
