/-! the two answer alike -/
def Same (x y : Option (Int32 × Mem)) : Prop := ∃ r M' N', x = some (r, M') ∧ y = some (r, N') ∧ Inv M' N'
theorem Same.mk {r : Int32} {M N : Mem} (h : Inv M N) : Same (some (r, M)) (some (r, N)) := ⟨r, M, N, rfl, rfl, h⟩
theorem same11 {A C : (Int32 → Mem → Option (Int32 × Mem)) → Int32 → Mem → Option (Int32 × Mem)} {n m : Nat} {x y : Int32} {M N : Mem} (h : ∀ F G, F = A → G = C → Same (it1 F n x M) (it1 G m y N)) : Same (it1 A n x M) (it1 C m y N) := h A C rfl rfl
theorem op_choose : ∀ (p : Int32) (M N : Mem), Inv M N → Same (f_X9_choose 0 p M) (f_X10_choose 0 p N) := by
  intro p M N h
  obtain ⟨nT, nF, nX, nC, nE, nL, nS, hT, hF, hX, hL, hC, hR, hD, hN, hO, hZ⟩ := h.1
  obtain ⟨f1, f2, f3, f4⟩ := id hF
  obtain ⟨c1, c2, c3, c4⟩ := id hC
  have c1 : M 1 6 = nI nC := c1
  have f1 : M 2 2 = nI nF := f1
  unfold f_X9_choose f_X10_choose
  simp only [s_has, s_isFigure, vv_d, mm_d, jn_d, bd_d, bd_i, r1_0_0, r1_0_1, r1_0_3, r1_0_4, r1_0_6, r1_0_7, r1_1_0, r1_1_1, r1_1_2, r1_1_3, r1_1_4, r1_1_5, r1_1_9, r1_2_1, r1_2_3, r1_2_4, r1_2_5, r1_2_6, r1_2_7, r1_9_1, r1_9_2, r1_9_3, r1_9_4, r1_9_5, r1_9_6, r1_16_0, r1_16_1, r1_19_0, r1_19_2, r1_19_3, r1_19_4, r1_24_1, r1_24_2, r1_24_3, r1_24_5, r1_61_0, r1_61_6, r2_0_0, r2_0_1, r2_0_2, r2_0_4, r2_0_5, r2_0_6, r2_0_7, r2_0_8, r2_0_9, r2_0_10, r2_0_11, r2_0_12, r2_0_24, r2_0_25, r2_0_28, r2_0_29, r2_0_30, r2_0_34, r2_0_35, r2_0_36, r2_0_38, if_b2, f1, f2, ld_3]
  by_cases hp : Rg p nF
  case neg =>
    rw [if_neg (fun z => hp ((rg_lt (by omega)).mp z)), if_neg (fun z => hp ((rg_le (by omega)).mp z))]
    exact Same.mk h
  rw [if_pos ((rg_lt (by omega)).mpr hp), if_pos ((rg_le (by omega)).mpr hp)]
  refine same11 (fun A B hA hB => ?_)
  have key : ∀ n k, k ≤ nC → nC < k + n → Same (it1 A n (nI k) M) (it1 B n (nI k) N) := by
    intro n
    induction n with
    | zero => intro k h1 h2; omega
    | succ n ih =>
      intro k h1 h2
      rw [it1_succ, it1_succ]
      generalize it1 A n = rc at ih ⊢
      generalize it1 B n = rd at ih ⊢
      rw [hA, hB]
      dsimp only
      simp only [c1, c2]
      by_cases hk : k = nC
      · subst hk
        rw [if_neg (show ¬ nI k < nI k from nI_nlt (Nat.le_refl _) (by omega)), if_neg (show ¬ nI k < nI k from nI_nlt (Nat.le_refl _) (by omega))]
        by_cases h6 : k = 6
        · rw [if_neg (show ¬ nI (k) < 6 from nI_nlt (a := k) (b := 6) (by omega) (by omega)), if_pos (by rw [h6]; rfl)]
          exact Same.mk h
        · rw [if_pos (show nI (k) < 6 from nI_lt (a := k) (b := 6) (by omega) (by decide)), if_neg (show ¬ nI (k) = 6 from fun q => absurd ((nI_eq (a := k) (b := 6) (by omega) (by decide)).mp q) (by omega)), st_n k rfl (by omega) (by decide), st_n (350 + k) (show 350 + nI k = nI (350 + k) from nI_add 350 k) (by omega) (by decide)]
          simp only [vv_d, mm_d, jn_d, bd_d, bd_i, r2_0_0, r2_0_1, r2_0_2, r2_0_4, r2_0_5, r2_0_6, r2_0_7, r2_0_8, r2_0_9, r2_0_10, r2_0_11, r2_0_12, r2_0_24, r2_0_25, r2_0_28, r2_0_29, r2_0_30, r2_0_34, r2_0_35, r2_0_36, r2_0_38, ld_3, st_3, up_same]
          rw [up_a M 29 k 1 6 p (by decide), up_k N 1 (350 + k) 3 p (by omega), c1, c2, nI_1]
          refine Same.mk ?_
          have e : ∀ j, j ≠ 3 → j ≠ 350 + k → up (up N 1 (350 + k) p) 1 3 (nI (k + 1)) 1 j = N 1 j := fun j h1 h2 => by rw [up_k _ _ _ _ _ h1, up_k _ _ _ _ _ h2]
          refine inv_now h (fun a ha => by rw [up_ne (by omega), up_ne (by omega)]) rfl rfl rfl (fun a ha => by rw [up_ne (by omega), up_ne (by omega)]) ⟨nT, nF, nX, k + 1, nE, nL, nS, hT.cg (fun j hj => e j (by omega) (by omega)), hF.cg (fun j hj => e j (by omega) (by omega)), hX.cg (fun j hj => e j (by omega) (by omega)), hL.cg hF.2.2.1 (fun j hj => e j (by omega) (by omega)), ?_, hR.cg (fun j hj => e j (by omega) (by omega)), hD.cg (fun j hj => e j (by omega) (by omega)), hN.cg (fun j hj => e j (by omega) (by omega)), hO.cg (fun j hj => e j (by omega) (by omega)), hZ.cg (fun j hj => e j (by omega) (by omega))⟩
          refine ⟨up_same _ _ _ _, up_same _ _ _ _, by omega, fun i hi => ?_⟩
          show up (up N 1 (350 + k) p) 1 3 (nI (k + 1)) 1 (350 + i) = up (up M 29 k p) 1 6 (nI (k + 1)) 29 i ∧ Rg (up (up M 29 k p) 1 6 (nI (k + 1)) 29 i) nF
          rw [up_k _ _ _ _ _ (show 350 + i ≠ 3 by omega), up_a _ _ _ _ _ _ (show 29 ≠ 1 by decide)]
          by_cases hik : i = k
          · subst hik
            rw [up_same, up_same]
            exact ⟨rfl, hp⟩
          · rw [up_k _ _ _ _ _ (show 350 + i ≠ 350 + k by omega), up_k _ _ _ _ _ hik]
            exact c4 i (by omega)
      · obtain ⟨d1, d2⟩ := c4 k (by omega)
        rw [if_pos (show nI k < nI nC from nI_lt (by omega) (by omega)), if_pos (show nI k < nI nC from nI_lt (by omega) (by omega)), ld_n k rfl (by omega) (by decide), ld_n (350 + k) (show 350 + nI k = nI (350 + k) from nI_add 350 k) (by omega) (by decide), d1]
        by_cases hd : M (1 + 28) k = p
        · rw [if_pos hd, if_pos hd]
          exact Same.mk h
        · rw [if_neg hd, if_neg hd, nI_1]
          exact ih (k + 1) (by omega) (by omega)
  exact key fuel 0 (by omega) (by show nC < 0 + 5000; omega)
