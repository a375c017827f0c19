/-! road -/
theorem rd_ix (a b : Nat) : nI a * 6 + nI b = nI (6 * a + b) := by
  rw [show nI a * (6 : Int32) = nI (a * 6) from pk_mul a 6, nI_add, show a * 6 + b = 6 * a + b by omega]
theorem rm_ix (a b : Nat) : 360 + 6 * nI a + nI b = nI (360 + (6 * a + b)) := by
  rw [show (6 : Int32) * nI a = nI (6 * a) from pk_mul 6 a, show (360 : Int32) + nI (6 * a) = nI (360 + 6 * a) from nI_add 360 (6 * a), nI_add, show 360 + 6 * a + b = 360 + (6 * a + b) by omega]
theorem op_road : ∀ (p q v : Int32) (M N : Mem), Inv M N → ∃ r M' N', f_X9_road 0 p q v M = some (r, M') ∧ f_X10_road 0 p q v N = some (r, N') ∧ Inv M' N' := by
  intro p q v M N h
  obtain ⟨nT, nF, nX, nC, nE, nL, nS, hT, hF, hX, hL, hC, hR, hD, hN, hO, hZ⟩ := h.1
  obtain ⟨r1, r2⟩ := id hR
  unfold f_X9_road f_X10_road f_X2_setRoad
  simp only [s_isPlace, y_isPlace, s_within, vv_d, mm_d, jn_d, bd_d, bd_i, r1_0_0, r1_0_1, r1_0_3, r1_0_4, r1_0_6, r1_0_7, r1_1_0, r1_1_1, r1_1_2, r1_1_3, r1_1_4, r1_1_5, r1_1_9, r1_2_1, r1_2_3, r1_2_4, r1_2_5, r1_2_6, r1_2_7, r1_9_1, r1_9_2, r1_9_3, r1_9_4, r1_9_5, r1_9_6, r1_16_0, r1_16_1, r1_19_0, r1_19_2, r1_19_3, r1_19_4, r1_24_1, r1_24_2, r1_24_3, r1_24_5, r1_61_0, r1_61_6, r2_0_0, r2_0_1, r2_0_2, r2_0_4, r2_0_5, r2_0_6, r2_0_7, r2_0_8, r2_0_9, r2_0_10, r2_0_11, r2_0_12, r2_0_24, r2_0_25, r2_0_28, r2_0_29, r2_0_30, r2_0_34, r2_0_35, r2_0_36, r2_0_38, if_b2, s_isInL v 0 30 0 30 N rfl rfl]
  by_cases hp : 0 ≤ p ∧ p ≤ 5
  case neg =>
    rw [if_neg hp, if_neg hp]
    exact ⟨_, M, N, rfl, rfl, h⟩
  rw [if_pos hp, if_pos hp]
  by_cases hq : 0 ≤ q ∧ q ≤ 5
  case neg =>
    rw [if_neg hq, if_neg hq]
    exact ⟨_, M, N, rfl, rfl, h⟩
  rw [if_pos hq, if_pos hq]
  by_cases hpq : p = q
  · rw [if_pos hpq, if_pos hpq]
    exact ⟨_, M, N, rfl, rfl, h⟩
  rw [if_neg hpq, if_neg hpq]
  by_cases hv : 0 ≤ v ∧ v ≤ 30
  case neg =>
    rw [if_neg hv, if_neg hv]
    exact ⟨_, M, N, rfl, rfl, h⟩
  rw [if_pos hv, if_pos hv]
  obtain ⟨a, ha, rfl⟩ := rg_of (n := 5) rfl hp.1 hp.2
  obtain ⟨b, hb, rfl⟩ := rg_of (n := 5) rfl hq.1 hq.2
  have hab : a ≠ b := fun z => hpq (by rw [z])
  rw [ld_n (6 * a + b) (rd_ix a b) (by omega) (by decide), st_n (6 * a + b) (rd_ix a b) (by omega) (by decide), st_n (6 * b + a) (rd_ix b a) (by omega) (by decide), st_n (360 + (6 * b + a)) (rm_ix b a) (by omega) (by decide), y_becomes (360 + (6 * a + b)) _ v _ (rm_ix a b) (by omega), up_k _ _ _ _ _ (show 360 + (6 * a + b) ≠ 360 + (6 * b + a) by omega), (r1 (6 * a + b) (by omega)).1]
  simp only [vv_d, mm_d, jn_d, bd_d, bd_i]
  have e : ∀ j, j ≠ 360 + (6 * a + b) → j ≠ 360 + (6 * b + a) → up (up N 1 (360 + (6 * b + a)) v) 1 (360 + (6 * a + b)) v 1 j = N 1 j := fun j h1 h2 => by rw [up_k _ _ _ _ _ h1, up_k _ _ _ _ _ h2]
  refine ⟨_, _, _, rfl, rfl, inv_now h (fun c hc => by rw [up_ne (by omega), up_ne (by omega)]) rfl rfl rfl (fun c hc => by rw [up_ne (by omega), up_ne (by omega)]) ⟨nT, nF, nX, nC, nE, nL, nS, hT.cg (fun j hj => e j (by omega) (by omega)), hF.cg (fun j hj => e j (by omega) (by omega)), hX.cg (fun j hj => e j (by omega) (by omega)), hL.cg hF.2.2.1 (fun j hj => e j (by omega) (by omega)), hC.cg (fun j hj => e j (by omega) (by omega)), ?_, hD.cg (fun j hj => e j (by omega) (by omega)), hN.cg (fun j hj => e j (by omega) (by omega)), hO.cg (fun j hj => e j (by omega) (by omega)), hZ.cg (fun j hj => e j (by omega) (by omega))⟩⟩
  have mr : ∀ i, up (up M 20 (6 * a + b) v) 20 (6 * b + a) v 20 i = if i = 6 * b + a ∨ i = 6 * a + b then v else M 20 i := by
    intro i
    by_cases h1 : i = 6 * b + a
    · subst h1
      rw [up_same, if_pos (Or.inl rfl)]
    · rw [up_k _ _ _ _ _ h1]
      by_cases h2 : i = 6 * a + b
      · subst h2
        rw [up_same, if_pos (Or.inr rfl)]
      · rw [up_k _ _ _ _ _ h2, if_neg (fun z => z.elim h1 h2)]
  refine ⟨fun i hi => ?_, fun x y hx hy => ?_⟩
  · show up (up N 1 (360 + (6 * b + a)) v) 1 (360 + (6 * a + b)) v 1 (360 + i) = up (up M 20 (6 * a + b) v) 20 (6 * b + a) v 20 i ∧ Rg (up (up M 20 (6 * a + b) v) 20 (6 * b + a) v 20 i) 31
    rw [mr]
    by_cases h1 : i = 6 * b + a ∨ i = 6 * a + b
    · rw [if_pos h1]
      refine ⟨?_, rg_of (n := 30) rfl hv.1 hv.2⟩
      rcases h1 with h1 | h1
      · subst h1
        rw [up_k _ _ _ _ _ (show 360 + (6 * b + a) ≠ 360 + (6 * a + b) by omega), up_same]
      · subst h1
        rw [up_same]
    · rw [if_neg h1, e (360 + i) (by omega) (by omega)]
      exact r1 i hi
  · show up (up M 20 (6 * a + b) v) 20 (6 * b + a) v 20 (6 * x + y) = up (up M 20 (6 * a + b) v) 20 (6 * b + a) v 20 (6 * y + x)
    rw [mr, mr]
    by_cases h1 : 6 * x + y = 6 * b + a ∨ 6 * x + y = 6 * a + b
    · rw [if_pos h1, if_pos (show 6 * y + x = 6 * b + a ∨ 6 * y + x = 6 * a + b by omega)]
    · rw [if_neg h1, if_neg (show ¬ (6 * y + x = 6 * b + a ∨ 6 * y + x = 6 * a + b) by omega)]
      exact r2 x y hx hy
