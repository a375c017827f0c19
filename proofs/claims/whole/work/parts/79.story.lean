set_option maxHeartbeats 4000000 in
theorem op_story : ∀ (p q : Int32) (M N : Mem), Inv M N → Same (f_X9_story 0 p q M) (f_X10_story 0 p q N) := by
  intro p q M N h
  obtain ⟨nT, nF, nX, nC, nE, nL, nS, hS, hT, hF, hX, hL, hC, hR, hD, hN, hO, hZ⟩ := h.st
  have f3 : nF ≤ 40 := hF.2.2.1
  obtain ⟨c1, c2, c3, c4⟩ := id hC
  unfold f_X9_story f_X10_story
  rw [s_within, bd_e, if_b2, s_isInL p 0 6 0 6 N rfl rfl, bd_e, if_b2]
  by_cases hp : 0 ≤ p ∧ p ≤ 6
  case neg =>
    rw [if_neg hp, if_neg hp]
    exact Same.mk h
  rw [if_pos hp, if_pos hp]
  obtain ⟨u, hu, rfl⟩ := rgN (c := 6) (by decide) hp
  repeat rw [vv_e]
  rw [e1_0_0, e2_0_0, ld_3, c1, c2, show 1 + nI nC = nI (1 + nC) from nI_add 1 nC, s_within, bd_e, if_b2, s_isInL q 0 (Int32.toInt64 (nI (1 + nC))) 0 (nI (1 + nC)) N rfl rfl, bd_e, if_b2]
  by_cases hq : 0 ≤ q ∧ q ≤ nI (1 + nC)
  case neg =>
    rw [if_neg hq, if_neg hq]
    exact Same.mk h
  rw [if_pos hq, if_pos hq]
  obtain ⟨wh, hwh, rfl⟩ := rgN (by omega) hq
  -- the chosen figures, their pairs, which kinds fit
  have hch : ∀ k, ∃ z : Nat × Nat, k < nC → z.1 < nF ∧ z.2 < 1000 ∧ M 29 k = nI z.1 ∧ N 1 (350 + k) = nI z.1 ∧ M 7 z.1 = nI z.2 ∧ N 1 (30 + 6 * z.1 + 3) = nI z.2 := fun k => by
    by_cases hk : k < nC
    · obtain ⟨e1, f, hf, e2⟩ := c4 k hk
      obtain ⟨t, kk, v, pp, q1, q2, q3, q4, q5, a1, a2, a3, a4, d1, d2, d3, d4, d5, d6⟩ := hF.fig hf
      exact ⟨(f, pp), fun _ => ⟨hf, q5, e2, by rw [e1]; exact e2, a4, d4⟩⟩
    · exact ⟨(0, 0), fun w => absurd w hk⟩
  obtain ⟨Z, hZ'⟩ := Classical.axiomOfChoice hch
  have hft : ∀ k, ∃ g : Nat → Bool, k < nC → ∀ j, j < 8 → (∀ M', Ec M M' → OkC M' (if g j = true then nI 1 else nI 0) (f_X6_fits 1 (nI (Z k).1) (nI j) M')) ∧ ∀ N', Em N N' → OkM N' (if g j = true then nI 1 else nI 0) (f_X10_fits 0 (nI (Z k).1) (nI j) N') := fun k => by
    by_cases hk : k < nC
    · have hj : ∀ j, ∃ y : Bool, j < 8 → (∀ M', Ec M M' → OkC M' (if y = true then nI 1 else nI 0) (f_X6_fits 1 (nI (Z k).1) (nI j) M')) ∧ ∀ N', Em N N' → OkM N' (if y = true then nI 1 else nI 0) (f_X10_fits 0 (nI (Z k).1) (nI j) N') := fun j => by
        by_cases hj8 : j < 8
        · obtain ⟨v, hv, a, b⟩ := fits_det (Or.inl rfl) hS (hZ' k hk).1 hj8
          rcases hv with rfl | rfl
          · exact ⟨false, fun _ => ⟨a, b⟩⟩
          · exact ⟨true, fun _ => ⟨a, b⟩⟩
        · exact ⟨false, fun w => absurd w hj8⟩
      obtain ⟨g, hg⟩ := Classical.axiomOfChoice hj
      exact ⟨g, fun _ j hj8 => hg j hj8⟩
    · exact ⟨fun _ => false, fun w => absurd w hk⟩
  obtain ⟨ft, hft⟩ := Classical.axiomOfChoice hft
  have h6 : ∀ k, k < nC → ft k 6 = true := fun k hk => by
    have a := x_fits6 (Or.inl rfl) hS (hZ' k hk).1
    have b := (hft k hk 6 (by decide)).1 M Ec.rfl'
    have e := a.inj b
    cases hb : ft k 6 with
    | true => rfl
    | false => rw [hb] at e; exact absurd e (by decide)
  have hCh : Cheap (fun k j => if ft k j = true then some (prN j (Z k).2) else none) (fun k => cbN (ft k) (Z k).2 7) nC := by
    intro k hk
    obtain ⟨i1, i2, i3, i4⟩ := cbN_ok (p := (Z k).2) (h6 k hk) 7 (Nat.le_refl _)
    refine ⟨i1, i2, prN (cbN (ft k) (Z k).2 7) (Z k).2, if_pos i3, fun j q' h1 h2 hq' => ?_⟩
    dsimp only at hq'
    by_cases hj : ft k j = true
    · rw [if_pos hj] at hq'
      cases hq'
      refine ⟨i4 j (by omega) h2 hj, ?_⟩
      unfold ukN
      by_cases w : 6 ≤ j
      · rw [if_pos w]; split <;> omega
      · rw [if_neg w]
        by_cases w2 : 6 ≤ cbN (ft k) (Z k).2 7
        · have y1 := prN_hi (cbN (ft k) (Z k).2 7) (Z k).2 w2 i2
          have y2 := prN_lo j (Z k).2 h1 (by omega)
          have y3 := i4 j (by omega) h2 hj
          omega
        · rw [if_neg w2]; exact Nat.le_refl _
    · rw [if_neg hj] at hq'; cases hq'
  have hcb : ∀ k j q', (fun k j => if ft k j = true then some (prN j (Z k).2) else none : Nat → Nat → Option Nat) k j = some q' → k < nC → q' ≤ 30 := fun k j q' he hk => by
    dsimp only at he
    by_cases hj : ft k j = true
    · rw [if_pos hj] at he
      cases he
      have := prN_b j (Z k).2 (hZ' k hk).2.1
      omega
    · rw [if_neg hj] at he; cases he
  sorry
