theorem ld_0 {β : Type} (N : Mem) (a : Nat) (k : Int32 → Option β) : ld N a 0 3510 k = k (N a 0) := ld_n 0 rfl (by decide) (by decide)
theorem st_0 {β : Type} (N : Mem) (a : Nat) (v : Int32) (k : Mem → Option β) : st N a 0 3510 v k = k (up N a 0 v) := st_n 0 rfl (by decide) (by decide)
theorem ld_1 {β : Type} (N : Mem) (a : Nat) (k : Int32 → Option β) : ld N a 1 3510 k = k (N a 1) := ld_n 1 rfl (by decide) (by decide)
theorem st_1 {β : Type} (N : Mem) (a : Nat) (v : Int32) (k : Mem → Option β) : st N a 1 3510 v k = k (up N a 1 v) := st_n 1 rfl (by decide) (by decide)
theorem ld_2 {β : Type} (N : Mem) (a : Nat) (k : Int32 → Option β) : ld N a 2 3510 k = k (N a 2) := ld_n 2 rfl (by decide) (by decide)
theorem st_2 {β : Type} (N : Mem) (a : Nat) (v : Int32) (k : Mem → Option β) : st N a 2 3510 v k = k (up N a 2 v) := st_n 2 rfl (by decide) (by decide)
theorem ld_3 {β : Type} (N : Mem) (a : Nat) (k : Int32 → Option β) : ld N a 3 3510 k = k (N a 3) := ld_n 3 rfl (by decide) (by decide)
theorem st_3 {β : Type} (N : Mem) (a : Nat) (v : Int32) (k : Mem → Option β) : st N a 3 3510 v k = k (up N a 3 v) := st_n 3 rfl (by decide) (by decide)
theorem ld_4 {β : Type} (N : Mem) (a : Nat) (k : Int32 → Option β) : ld N a 4 3510 k = k (N a 4) := ld_n 4 rfl (by decide) (by decide)
theorem st_4 {β : Type} (N : Mem) (a : Nat) (v : Int32) (k : Mem → Option β) : st N a 4 3510 v k = k (up N a 4 v) := st_n 4 rfl (by decide) (by decide)
theorem ld_5 {β : Type} (N : Mem) (a : Nat) (k : Int32 → Option β) : ld N a 5 3510 k = k (N a 5) := ld_n 5 rfl (by decide) (by decide)
theorem st_5 {β : Type} (N : Mem) (a : Nat) (v : Int32) (k : Mem → Option β) : st N a 5 3510 v k = k (up N a 5 v) := st_n 5 rfl (by decide) (by decide)
theorem ld_6 {β : Type} (N : Mem) (a : Nat) (k : Int32 → Option β) : ld N a 6 3510 k = k (N a 6) := ld_n 6 rfl (by decide) (by decide)
theorem st_6 {β : Type} (N : Mem) (a : Nat) (v : Int32) (k : Mem → Option β) : st N a 6 3510 v k = k (up N a 6 v) := st_n 6 rfl (by decide) (by decide)
theorem ld_7 {β : Type} (N : Mem) (a : Nat) (k : Int32 → Option β) : ld N a 7 3510 k = k (N a 7) := ld_n 7 rfl (by decide) (by decide)
theorem st_7 {β : Type} (N : Mem) (a : Nat) (v : Int32) (k : Mem → Option β) : st N a 7 3510 v k = k (up N a 7 v) := st_n 7 rfl (by decide) (by decide)
theorem ld_8 {β : Type} (N : Mem) (a : Nat) (k : Int32 → Option β) : ld N a 8 3510 k = k (N a 8) := ld_n 8 rfl (by decide) (by decide)
theorem st_8 {β : Type} (N : Mem) (a : Nat) (v : Int32) (k : Mem → Option β) : st N a 8 3510 v k = k (up N a 8 v) := st_n 8 rfl (by decide) (by decide)
theorem nmx {n : Nat} : nI (n + 1) - 1 = nI n := nI_pred n
/-- a source comes -/
theorem x_addSource (n : Nat) (v : Int32) (M : Mem) (h : M 24 4 = nI n) (hn : n ≤ 8) : f_X1_addSource 24 v M = if n = 8 then some ((-1000000003), M) else some (nI n, up (up M 28 n v) 24 4 (nI (n + 1))) := by
  unfold f_X1_addSource
  simp only [vv_d, mm_d, jn_d, bd_d, bd_i, r1_0_0, r1_0_1, r1_0_3, r1_0_4, r1_0_6, r1_0_7, r1_1_0, r1_1_1, r1_1_2, r1_1_3, r1_1_4, r1_1_5, r1_1_9, r1_2_1, r1_2_3, r1_2_4, r1_2_5, r1_2_6, r1_2_7, r1_9_1, r1_9_2, r1_9_3, r1_9_4, r1_9_5, r1_9_6, r1_16_0, r1_16_1, r1_19_0, r1_19_2, r1_19_3, r1_19_4, r1_24_1, r1_24_2, r1_24_3, r1_24_5, r1_61_0, r1_61_6]
  rw [h]
  by_cases hf : n = 8
  · subst hf
    rfl
  · rw [if_pos (show nI (n) < 8 from nI_lt (a := n) (b := 8) (by omega) (by decide)), if_neg hf, st_n n rfl (by omega) (by decide)]
    simp only [vv_d, mm_d, jn_d, bd_d, bd_i, up_same]
    rw [up_a M 28 n 24 4 v (by decide), h, nI_1, nmx]
theorem op_source : ∀ (v : Int32) (M N : Mem), Inv M N → ∃ r M' N', f_X9_source 0 v M = some (r, M') ∧ f_X10_source 0 v N = some (r, N') ∧ Inv M' N' := by
  intro v M N h
  obtain ⟨nT, nF, nX, nC, nE, nL, nS, hT, hF, hX, hL, hC, hR, hD, hN, hO, hZ⟩ := h.1
  obtain ⟨o1, o2, o3, o4⟩ := id hO
  have o1 : M 24 4 = nI nS := o1
  have hx : f_X9_source 0 v M = if 0 ≤ v ∧ v ≤ 65535 then f_X1_addSource 24 v M else some ((-1000000001), M) := by
    unfold f_X9_source f_X9_lowBits
    simp only [s_within, vv_d, mm_d, jn_d, bd_d, bd_i, r1_0_0, r1_0_1, r1_0_3, r1_0_4, r1_0_6, r1_0_7, r1_1_0, r1_1_1, r1_1_2, r1_1_3, r1_1_4, r1_1_5, r1_1_9, r1_2_1, r1_2_3, r1_2_4, r1_2_5, r1_2_6, r1_2_7, r1_9_1, r1_9_2, r1_9_3, r1_9_4, r1_9_5, r1_9_6, r1_16_0, r1_16_1, r1_19_0, r1_19_2, r1_19_3, r1_19_4, r1_24_1, r1_24_2, r1_24_3, r1_24_5, r1_61_0, r1_61_6, if_b2]
    by_cases hv : 0 ≤ v ∧ v ≤ 65535
    · rw [if_pos hv, if_pos (show 0 ≤ v ∧ v ≤ ((1 : Int32) <<< ((16 : Int32) &&& 31)) - 1 from hv)]
      rw [x_addSource nS v M o1 o3]
      split <;> rfl
    · rw [if_neg hv, if_neg (show ¬ (0 ≤ v ∧ v ≤ ((1 : Int32) <<< ((16 : Int32) &&& 31)) - 1) from hv)]
  have hy : f_X10_source 0 v N = if 0 ≤ v ∧ v ≤ 65535 then (if nS = 8 then some ((-1000000003), N) else some (nI nS, up (up N 1 (490 + nS) v) 1 6 (nI (nS + 1)))) else some ((-1000000001), N) := by
    unfold f_X10_source
    rw [s_isInL v 0 65535 0 65535 N rfl rfl]
    simp only [vv_d, mm_d, jn_d, bd_d, bd_i, r2_0_0, r2_0_1, r2_0_2, r2_0_4, r2_0_5, r2_0_6, r2_0_7, r2_0_8, r2_0_9, r2_0_10, r2_0_11, r2_0_12, r2_0_24, r2_0_25, r2_0_28, r2_0_29, r2_0_30, r2_0_34, r2_0_35, r2_0_36, r2_0_38, if_b2, ld_6]
    rw [o2]
    by_cases hv : 0 ≤ v ∧ v ≤ 65535
    · rw [if_pos hv, if_pos hv]
      by_cases hf : nS = 8
      · rw [if_pos hf, hf]
        rfl
      · rw [if_neg hf, if_neg (show ¬ nI (nS) = 8 from fun q => absurd ((nI_eq (a := nS) (b := 8) (by omega) (by decide)).mp q) (by omega)), st_n (490 + nS) (show 490 + nI nS = nI (490 + nS) from nI_add 490 nS) (by omega) (by decide)]
        simp only [vv_d, mm_d, jn_d, bd_d, bd_i, r2_0_0, r2_0_1, r2_0_2, r2_0_4, r2_0_5, r2_0_6, r2_0_7, r2_0_8, r2_0_9, r2_0_10, r2_0_11, r2_0_12, r2_0_24, r2_0_25, r2_0_28, r2_0_29, r2_0_30, r2_0_34, r2_0_35, r2_0_36, r2_0_38, ld_6, st_6, up_same]
        rw [up_k N 1 (490 + nS) 6 v (by omega), o2, nI_1, nmx]
    · rw [if_neg hv, if_neg hv]
  rw [hx, hy]
  by_cases hv : 0 ≤ v ∧ v ≤ 65535
  · rw [if_pos hv, if_pos hv, x_addSource nS v M o1 o3]
    by_cases hf : nS = 8
    · rw [if_pos hf, if_pos hf]
      exact ⟨_, M, N, rfl, rfl, h⟩
    · rw [if_neg hf, if_neg hf]
      have e : ∀ j, j ≠ 6 → j ≠ 490 + nS → up (up N 1 (490 + nS) v) 1 6 (nI (nS + 1)) 1 j = N 1 j := fun j h1 h2 => by rw [up_k _ _ _ _ _ h1, up_k _ _ _ _ _ h2]
      refine ⟨_, _, _, rfl, rfl, inv_now h (fun a ha => by rw [up_ne (by omega), up_ne (by omega)]) rfl rfl rfl (fun a ha => by rw [up_ne (by omega), up_ne (by omega)]) ⟨nT, nF, nX, nC, nE, nL, nS + 1, hT.cg (fun j hj => e j (by omega) (by omega)), hF.cg (fun j hj => e j (by omega) (by omega)), hX.cg (fun j hj => e j (by omega) (by omega)), hL.cg hF.2.2.1 (fun j hj => e j (by omega) (by omega)), hC.cg (fun j hj => e j (by omega) (by omega)), hR.cg (fun j hj => e j (by omega) (by omega)), hD.cg (fun j hj => e j (by omega) (by omega)), hN.cg (fun j hj => e j (by omega) (by omega)), ?_, hZ.cg (fun j hj => e j (by omega) (by omega))⟩⟩
      refine ⟨up_same _ _ _ _, up_same _ _ _ _, by omega, fun k hk => ?_⟩
      show up (up N 1 (490 + nS) v) 1 6 (nI (nS + 1)) 1 (490 + k) = up (up M 28 nS v) 24 4 (nI (nS + 1)) 28 k ∧ Rg (up (up M 28 nS v) 24 4 (nI (nS + 1)) 28 k) 65536
      rw [up_k _ _ _ _ _ (show 490 + k ≠ 6 by omega), up_a _ _ _ _ _ _ (show 28 ≠ 24 by decide)]
      by_cases hkn : k = nS
      · subst hkn
        rw [up_same, up_same]
        exact ⟨rfl, rg_of (n := 65535) rfl hv.1 hv.2⟩
      · rw [up_k _ _ _ _ _ (show 490 + k ≠ 490 + nS by omega), up_k _ _ _ _ _ hkn]
        exact o4 k (by omega)
  · rw [if_neg hv, if_neg hv]
    exact ⟨_, M, N, rfl, rfl, h⟩
