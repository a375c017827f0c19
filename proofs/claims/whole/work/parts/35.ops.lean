/-! table -/
theorem rg_int {x : Int32} {n : Nat} (h : Rg x n) (hn : n < 2 ^ 31) : 0 ≤ x.toInt ∧ x.toInt < n := by
  obtain ⟨k, hk, rfl⟩ := h
  rw [nI_toInt (by omega)]
  omega
theorem op_table : ∀ (v : Int32) (M N : Mem), Inv M N → ∃ r M' N', f_X9_table 0 v M = some (r, M') ∧ f_X10_table 0 v N = some (r, N') ∧ Inv M' N' := by
  intro v M N h
  obtain ⟨nT, nF, nX, nC, nE, nL, nS, hT, hF, hX, hL, hC, hR, hD, hN, hO, hZ⟩ := h.1
  obtain ⟨t1, t2, t3, t4, t5⟩ := id hT
  have t1 : M 2 0 = nI nT := t1
  by_cases hv : 0 ≤ v ∧ v ≤ 59
  case neg =>
    refine ⟨(-1000000001), M, N, ?_, ?_, h⟩
    · unfold f_X9_table
      simp only [s_within, vv_d, mm_d, jn_d, bd_d, bd_i, r1_0_0, r1_0_1, r1_0_3, r1_0_4, r1_0_6, r1_0_7, r1_1_0, r1_1_1, r1_1_2, r1_1_3, r1_1_4, r1_1_5, r1_1_9, r1_2_1, r1_2_3, r1_2_4, r1_2_5, r1_2_6, r1_2_7, r1_9_1, r1_9_2, r1_9_3, r1_9_4, r1_9_5, r1_9_6, r1_16_0, r1_16_1, r1_19_0, r1_19_2, r1_19_3, r1_19_4, r1_24_1, r1_24_2, r1_24_3, r1_24_5, r1_61_0, r1_61_6, if_b2]
      rw [if_neg hv]
    · unfold f_X10_table
      rw [s_isInL v 0 59 0 59 N rfl rfl]
      simp only [vv_d, mm_d, jn_d, bd_d, bd_i, r2_0_0, r2_0_1, r2_0_2, r2_0_4, r2_0_5, r2_0_6, r2_0_7, r2_0_8, r2_0_9, r2_0_10, r2_0_11, r2_0_12, r2_0_24, r2_0_25, r2_0_28, r2_0_29, r2_0_30, r2_0_34, r2_0_35, r2_0_36, r2_0_38, if_b2]
      rw [if_neg hv]
  have xq : f_X9_table 0 v M = f_X0_addTable 2 v M := by
    unfold f_X9_table
    simp only [s_within, vv_d, mm_d, jn_d, bd_d, bd_i, r1_0_0, r1_0_1, r1_0_3, r1_0_4, r1_0_6, r1_0_7, r1_1_0, r1_1_1, r1_1_2, r1_1_3, r1_1_4, r1_1_5, r1_1_9, r1_2_1, r1_2_3, r1_2_4, r1_2_5, r1_2_6, r1_2_7, r1_9_1, r1_9_2, r1_9_3, r1_9_4, r1_9_5, r1_9_6, r1_16_0, r1_16_1, r1_19_0, r1_19_2, r1_19_3, r1_19_4, r1_24_1, r1_24_2, r1_24_3, r1_24_5, r1_61_0, r1_61_6, if_b2]
    rw [if_pos hv]
    generalize f_X0_addTable 2 v M = z
    cases z <;> rfl
  rw [xq]
  unfold f_X0_addTable f_X10_table
  rw [s_isInL v 0 59 0 59 N rfl rfl]
  simp only [vv_d, mm_d, jn_d, bd_d, bd_i, r1_0_0, r1_0_1, r1_0_3, r1_0_4, r1_0_6, r1_0_7, r1_1_0, r1_1_1, r1_1_2, r1_1_3, r1_1_4, r1_1_5, r1_1_9, r1_2_1, r1_2_3, r1_2_4, r1_2_5, r1_2_6, r1_2_7, r1_9_1, r1_9_2, r1_9_3, r1_9_4, r1_9_5, r1_9_6, r1_16_0, r1_16_1, r1_19_0, r1_19_2, r1_19_3, r1_19_4, r1_24_1, r1_24_2, r1_24_3, r1_24_5, r1_61_0, r1_61_6, r2_0_0, r2_0_1, r2_0_2, r2_0_4, r2_0_5, r2_0_6, r2_0_7, r2_0_8, r2_0_9, r2_0_10, r2_0_11, r2_0_12, r2_0_24, r2_0_25, r2_0_28, r2_0_29, r2_0_30, r2_0_34, r2_0_35, r2_0_36, r2_0_38, if_b2, ld_0]
  rw [if_pos hv, t1, t2]
  by_cases hbad : 0 < nT ∧ v < M 3 (nT - 1)
  · refine ⟨(-1000000002), M, N, ?_, ?_, h⟩
    · rw [if_pos (show 0 < nI nT from nI_lt (a := 0) (b := nT) hbad.1 (by omega)), ld_n (nT - 1) (show nI nT - 1 = nI (nT - 1) from pk_sub (b := 1) (by omega)) (by omega) (by decide), if_pos hbad.2]
    · rw [if_pos (show 0 < nI nT from nI_lt (a := 0) (b := nT) hbad.1 (by omega)), ld_n (10 + nT - 1) (show 10 + nI nT - 1 = nI (10 + nT - 1) by rw [show 10 + nI nT = nI (10 + nT) from nI_add 10 nT]; exact pk_sub (b := 1) (by omega)) (by omega) (by decide)]
      have e1 := (t4 (nT - 1) (by omega)).1
      rw [show 10 + nT - 1 = 10 + (nT - 1) by omega, e1]
      exact if_pos hbad.2
  -- behind the year's test both go on alike
  have cx : ∀ (x y : Option (Int32 × Mem)), (if 0 < nI nT then ld M 3 (nI nT - 1) 12 (fun x10 => if v < x10 then x else y) else y) = y := by
    intro x y
    by_cases h0 : 0 < nT
    · rw [if_pos (show 0 < nI nT from nI_lt (a := 0) (b := nT) h0 (by omega)), ld_n (nT - 1) (show nI nT - 1 = nI (nT - 1) from pk_sub (b := 1) (by omega)) (by omega) (by decide), if_neg (fun q => hbad ⟨h0, q⟩)]
    · rw [if_neg (show ¬ 0 < nI nT from nI_nlt (a := 0) (b := nT) (by omega) (by decide))]
  have cy' : ∀ (x y : Option (Int32 × Mem)), (if 0 < nI nT then ld N 1 (10 + nI nT - 1) 3510 (fun x10 => if v < x10 then x else y) else y) = y := by
    intro x y
    by_cases h0 : 0 < nT
    · rw [if_pos (show 0 < nI nT from nI_lt (a := 0) (b := nT) h0 (by omega)), ld_n (10 + nT - 1) (show 10 + nI nT - 1 = nI (10 + nT - 1) by rw [show 10 + nI nT = nI (10 + nT) from nI_add 10 nT]; exact pk_sub (b := 1) (by omega)) (by omega) (by decide)]
      have e1 := (t4 (nT - 1) (by omega)).1
      rw [show 10 + nT - 1 = 10 + (nT - 1) by omega, e1]
      exact if_neg (fun q => hbad ⟨h0, q⟩)
    · rw [if_neg (show ¬ 0 < nI nT from nI_nlt (a := 0) (b := nT) (by omega) (by decide))]
  rw [cx, cy']
  by_cases hf : nT = 12
  · subst hf
    exact ⟨(-1000000003), M, N, rfl, rfl, h⟩
  · rw [if_pos (show nI (nT) < 12 from nI_lt (a := nT) (b := 12) (by omega) (by decide)), if_neg (show ¬ nI (nT) = 12 from fun q => absurd ((nI_eq (a := nT) (b := 12) (by omega) (by decide)).mp q) (by omega)), st_n nT rfl (by omega) (by decide), st_n (10 + nT) (show 10 + nI nT = nI (10 + nT) from nI_add 10 nT) (by omega) (by decide)]
    simp only [vv_d, mm_d, jn_d, bd_d, bd_i, r2_0_0, r2_0_1, r2_0_2, r2_0_4, r2_0_5, r2_0_6, r2_0_7, r2_0_8, r2_0_9, r2_0_10, r2_0_11, r2_0_12, r2_0_24, r2_0_25, r2_0_28, r2_0_29, r2_0_30, r2_0_34, r2_0_35, r2_0_36, r2_0_38, ld_0, st_0, up_same]
    rw [up_a M 3 nT 2 0 v (by decide), t1, up_k N 1 (10 + nT) 0 v (by omega), t2, nI_1, nmx]
    have e : ∀ j, j ≠ 0 → j ≠ 10 + nT → up (up N 1 (10 + nT) v) 1 0 (nI (nT + 1)) 1 j = N 1 j := fun j h1 h2 => by rw [up_k _ _ _ _ _ h1, up_k _ _ _ _ _ h2]
    refine ⟨_, _, _, rfl, rfl, inv_now h (fun a ha => by rw [up_ne (by omega), up_ne (by omega)]) rfl rfl rfl (fun a ha => by rw [up_ne (by omega), up_ne (by omega)]) ⟨nT + 1, nF, nX, nC, nE, nL, nS, ?_, ?_, hX.cg (fun j hj => e j (by omega) (by omega)), hL.cg hF.2.2.1 (fun j hj => e j (by omega) (by omega)), hC.cg (fun j hj => e j (by omega) (by omega)), hR.cg (fun j hj => e j (by omega) (by omega)), hD.cg (fun j hj => e j (by omega) (by omega)), hN.cg (fun j hj => e j (by omega) (by omega)), hO.cg (fun j hj => e j (by omega) (by omega)), hZ.cg (fun j hj => e j (by omega) (by omega))⟩⟩
    · refine ⟨up_same _ _ _ _, up_same _ _ _ _, by omega, fun t ht => ?_, fun t ht => ?_⟩
      · show up (up N 1 (10 + nT) v) 1 0 (nI (nT + 1)) 1 (10 + t) = up (up M 3 nT v) 2 0 (nI (nT + 1)) 3 t ∧ Rg (up (up M 3 nT v) 2 0 (nI (nT + 1)) 3 t) 60
        rw [up_k _ _ _ _ _ (show 10 + t ≠ 0 by omega), up_a _ _ _ _ _ _ (show 3 ≠ 2 by decide)]
        by_cases htn : t = nT
        · subst htn
          rw [up_same, up_same]
          exact ⟨rfl, rg_of (n := 59) rfl hv.1 hv.2⟩
        · rw [up_k _ _ _ _ _ (show 10 + t ≠ 10 + nT by omega), up_k _ _ _ _ _ htn]
          exact t4 t (by omega)
      · show up (up M 3 nT v) 2 0 (nI (nT + 1)) 3 t ≤ up (up M 3 nT v) 2 0 (nI (nT + 1)) 3 (t + 1)
        rw [up_a _ _ _ _ _ _ (show 3 ≠ 2 by decide), up_a _ _ _ _ _ _ (show 3 ≠ 2 by decide), up_k _ _ _ _ _ (show t ≠ nT by omega)]
        by_cases htn : t + 1 = nT
        · rw [htn, up_same]
          have h0 : ¬ v < M 3 (nT - 1) := fun q => hbad ⟨by omega, q⟩
          rw [show t = nT - 1 by omega]
          exact Int32.not_lt.mp h0
        · rw [up_k _ _ _ _ _ htn]
          exact t5 t (by omega)
    · obtain ⟨f1, f2, f3, f4⟩ := id hF
      refine RF.cg (g := N 1) ⟨f1, f2, f3, fun f hf' => ?_⟩ (fun j hj => e j (by omega) (by omega))
      obtain ⟨a1, a2, a3⟩ := f4 f hf'
      obtain ⟨k, hk, ek⟩ := a2
      exact ⟨a1, ⟨k, by omega, ek⟩, a3⟩
