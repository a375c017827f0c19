/-! the model's row of numbers, read and written -/
theorem y_becomes (at' : Nat) (i v : Int32) (N : Mem) (h : i = nI at') (ha : at' < 3510) : f_X10_becomes 0 i v N = some (N 1 at', up N 1 at' v) := by
  unfold f_X10_becomes
  simp only [vv_d, mm_d, jn_d, bd_d, bd_i, r2_0_0, r2_0_1, r2_0_2, r2_0_4, r2_0_5, r2_0_6, r2_0_7, r2_0_8, r2_0_9, r2_0_10, r2_0_11, r2_0_12, r2_0_24, r2_0_25, r2_0_28, r2_0_29, r2_0_30, r2_0_34, r2_0_35, r2_0_36, r2_0_38]
  rw [ld_n at' h ha (by decide)]
  rw [st_n at' h ha (by decide)]
theorem up_row (N : Mem) (a k : Nat) (v : Int32) : up N a k v a = upd (N a) k v := up_at
theorem upd_n {f : Nat → Int32} {k j : Nat} {v : Int32} (h : j ≠ k) : upd f k v j = f j := by simp [upd, h]
theorem upd_s {f : Nat → Int32} {k : Nat} {v : Int32} : upd f k v k = v := by simp [upd]
/-! the parts of a state under another row that is the same where they look -/
theorem RT.cg {nT : Nat} {cn : Int32} {yr g g' : Nat → Int32} (h : RT nT cn yr g) (e : ∀ j, j = 0 ∨ (10 ≤ j ∧ j < 22) → g' j = g j) : RT nT cn yr g' := by
  obtain ⟨h1, h2, h3, h4, h5⟩ := h
  exact ⟨h1, by rw [e 0 (Or.inl rfl)]; exact h2, h3, fun t ht => by rw [e (10 + t) (by omega)]; exact h4 t ht, h5⟩
theorem RF.cg {nT nF : Nat} {cn : Int32} {tb kd vl pr fr g g' : Nat → Int32} (h : RF nT nF cn tb kd vl pr fr g) (e : ∀ j, j = 1 ∨ (30 ≤ j ∧ j < 270 ∧ j % 6 ≠ 5) → g' j = g j) : RF nT nF cn tb kd vl pr fr g' := by
  obtain ⟨h1, h2, h3, h4⟩ := h
  exact ⟨h1, by rw [e 1 (Or.inl rfl)]; exact h2, h3, fun f hf => by rw [e (30 + 6 * f) (by omega), e (31 + 6 * f) (by omega), e (32 + 6 * f) (by omega), e (33 + 6 * f) (by omega), e (34 + 6 * f) (by omega)]; exact h4 f hf⟩
theorem RX.cg {nX : Nat} {cn : Int32} {key tbl lv len sp g g' : Nat → Int32} (h : RX nX cn key tbl lv len sp g) (e : ∀ j, j = 2 ∨ (500 ≤ j ∧ j < 500 + 200 * nX) → g' j = g j) : RX nX cn key tbl lv len sp g' := by
  obtain ⟨h1, h2, h3, h4⟩ := h
  refine ⟨h1, by rw [e 2 (Or.inl rfl)]; exact h2, h3, fun t ht => ?_⟩
  obtain ⟨a1, a2, m, a3, a4, a5, d, d0, dm, a6⟩ := h4 t ht
  refine ⟨by rw [e (500 + 200 * t) (by omega)]; exact a1, by rw [e (501 + 200 * t) (by omega)]; exact a2, m, a3, a4, by rw [e (502 + 200 * t) (by omega)]; exact a5, d, d0, dm, fun k hk => ?_⟩
  show StepOK _ _ (g' (504 + 200 * t + 2 * k)) (g' (505 + 200 * t + 2 * k)) _ _
  rw [e (504 + 200 * t + 2 * k) (by omega), e (505 + 200 * t + 2 * k) (by omega)]
  exact a6 k hk
theorem RLn.cg {nF : Nat} {len fg tb g g' : Nat → Int32} (h : RLn nF len fg tb g) (hF : nF ≤ 40) (e : ∀ j, (30 ≤ j ∧ j < 270 ∧ j % 6 = 5) ∨ (270 ≤ j ∧ j < 348) → g' j = g j) : RLn nF len fg tb g' := by
  obtain ⟨h1, h2⟩ := h
  refine ⟨fun l hl => ?_, fun f hf => ?_⟩
  · obtain ⟨k, a1, a2, a3, a4, a5⟩ := h1 l hl
    refine ⟨k, a1, a2, by rw [e (270 + 13 * l) (by omega)]; exact a3, fun i hi => ?_, a5⟩
    obtain ⟨f, b1, b2, b3, b4⟩ := a4 i hi
    exact ⟨f, b1, b2, by rw [e (271 + 13 * l + i) (by omega)]; exact b3, by rw [e (35 + 6 * f) (by omega)]; exact b4⟩
  · rw [e (35 + 6 * f) (by omega)]
    exact h2 f hf
theorem RC.cg {nF nC : Nat} {cn : Int32} {ch g g' : Nat → Int32} (h : RC nF nC cn ch g) (e : ∀ j, j = 3 ∨ (350 ≤ j ∧ j < 356) → g' j = g j) : RC nF nC cn ch g' := by
  obtain ⟨h1, h2, h3, h4⟩ := h
  exact ⟨h1, by rw [e 3 (Or.inl rfl)]; exact h2, h3, fun k hk => by rw [e (350 + k) (by omega)]; exact h4 k hk⟩
theorem RR.cg {rd g g' : Nat → Int32} (h : RR rd g) (e : ∀ j, 360 ≤ j ∧ j < 396 → g' j = g j) : RR rd g' :=
  ⟨fun i hi => by rw [e (360 + i) (by omega)]; exact h.1 i hi, h.2⟩
theorem RD.cg {nE : Nat} {cn : Int32} {dy pl g g' : Nat → Int32} (h : RD nE cn dy pl g) (e : ∀ j, j = 4 ∨ (400 ≤ j ∧ j < 440) → g' j = g j) : RD nE cn dy pl g' := by
  obtain ⟨h1, h2, h3, h4⟩ := h
  exact ⟨h1, by rw [e 4 (Or.inl rfl)]; exact h2, h3, fun k hk => by rw [e (400 + 2 * k) (by omega), e (401 + 2 * k) (by omega)]; exact h4 k hk⟩
theorem RN.cg {nL : Nat} {cn : Int32} {ot ol nd g g' : Nat → Int32} (h : RN nL cn ot ol nd g) (e : ∀ j, j = 5 ∨ (440 ≤ j ∧ j < 488) → g' j = g j) : RN nL cn ot ol nd g' := by
  obtain ⟨h1, h2, h3, h4⟩ := h
  exact ⟨h1, by rw [e 5 (Or.inl rfl)]; exact h2, h3, fun k hk => by rw [e (440 + 3 * k) (by omega), e (441 + 3 * k) (by omega), e (442 + 3 * k) (by omega)]; exact h4 k hk⟩
theorem RO.cg {nS : Nat} {cn : Int32} {tl g g' : Nat → Int32} (h : RO nS cn tl g) (e : ∀ j, j = 6 ∨ (490 ≤ j ∧ j < 498) → g' j = g j) : RO nS cn tl g' := by
  obtain ⟨h1, h2, h3, h4⟩ := h
  exact ⟨h1, by rw [e 6 (Or.inl rfl)]; exact h2, h3, fun k hk => by rw [e (490 + k) (by omega)]; exact h4 k hk⟩
theorem RZ.cg {z bs : Int32} {g g' : Nat → Int32} (h : RZ z bs g) (e : ∀ j, j = 7 ∨ j = 8 → g' j = g j) : RZ z bs g' :=
  ⟨by rw [e 7 (Or.inl rfl)]; exact h.1, by rw [e 8 (Or.inr rfl)]; exact h.2.1, h.2.2⟩
/-! seed -/
theorem x_seed (v : Int32) (M : Mem) : f_X9_seed 0 v M = some (M 1 8, up M 1 8 v) := by
  unfold f_X9_seed
  simp only [vv_d, mm_d, jn_d, bd_d, bd_i, r1_0_0, r1_0_1, r1_0_3, r1_0_4, r1_0_6, r1_0_7, r1_1_0, r1_1_1, r1_1_2, r1_1_3, r1_1_4, r1_1_5, r1_1_9, r1_2_1, r1_2_3, r1_2_4, r1_2_5, r1_2_6, r1_2_7, r1_9_1, r1_9_2, r1_9_3, r1_9_4, r1_9_5, r1_9_6, r1_16_0, r1_16_1, r1_19_0, r1_19_2, r1_19_3, r1_19_4, r1_24_1, r1_24_2, r1_24_3, r1_24_5, r1_61_0, r1_61_6]
theorem y_seed (v : Int32) (N : Mem) : f_X10_seed 0 v N = some (N 1 7, up N 1 7 v) := by
  unfold f_X10_seed
  rw [y_becomes 7 7 v N rfl (by decide)]
  simp only [vv_d, mm_d, jn_d, bd_d, bd_i]
theorem s_isInL (a : Int32) (b c : Int64) (b' c' : Int32) (M : Mem) (hb : Int32.toInt64 b' = b) (hc : Int32.toInt64 c' = c) : f_X10_isIn (Int32.toInt64 a) b c M = some (b2 (b' ≤ a ∧ a ≤ c'), M) := by
  subst hb; subst hc
  rw [s_isIn, s_within]
theorem if_b2 {α : Type} (p : Prop) [Decidable p] (x y : α) : (if b2 p = 0 then x else y) = if p then y else x := by
  by_cases h : p
  · rw [if_neg (by rw [b2_0]; exact fun q => q h), if_pos h]
  · rw [if_pos (by rw [b2_0]; exact h), if_neg h]
/-! what a call leaves that only touches what is now -/
theorem inv_now {M N M' N' : Mem} (h : Inv M N) (hM : ∀ a, a = 0 ∨ 31 ≤ a → M' a = M a) (h3 : N' 0 3 = N 0 3) (h13 : N' 0 13 = N 0 13) (h37 : N' 0 37 = N 0 37) (hN : ∀ a, a = 2 ∨ (4 ≤ a ∧ a ≤ 12) ∨ a = 20 → N' a = N a) (hS : RS' M' 1 (N' 1)) : Inv M' N' := by
  obtain ⟨-, hI, hB, hH, hP, hW⟩ := h
  refine ⟨hS, ?_, ?_, fun i hi => ?_, fun i hi => ?_, ?_⟩
  · unfold RI at hI ⊢
    rw [hM 0 (Or.inl rfl), h3, hN 2 (by omega)]
    rcases hI with hI | ⟨a1, a2, nT, nF, nX, nC, nE, nL, nS, hR⟩
    · exact Or.inl hI
    · refine Or.inr ⟨a1, a2, nT, nF, nX, nC, nE, nL, nS, ?_⟩
      unfold RS at hR ⊢
      rw [hM 31 (by omega), hM (31 + 1) (by omega), hM (31 + 2) (by omega), hM (31 + 3) (by omega), hM (31 + 4) (by omega), hM (31 + 5) (by omega), hM (31 + 6) (by omega), hM (31 + 7) (by omega), hM (31 + 8) (by omega), hM (31 + 9) (by omega), hM (31 + 10) (by omega), hM (31 + 11) (by omega), hM (31 + 12) (by omega), hM (31 + 13) (by omega), hM (31 + 16) (by omega), hM (31 + 17) (by omega), hM (31 + 28) (by omega), hM (31 + 19) (by omega), hM (31 + 18) (by omega), hM (31 + 20) (by omega), hM (31 + 21) (by omega), hM (31 + 23) (by omega), hM (31 + 24) (by omega), hM (31 + 25) (by omega), hM (31 + 26) (by omega), hM (31 + 27) (by omega)]
      exact hR
  · rw [hM 61 (by omega), hM 62 (by omega), h13, hN 12 (by omega)]; exact hB
  · rw [hM (66 + 2 * i) (by omega), hM (67 + 2 * i) (by omega), hN 4 (by omega), hN 5 (by omega), hN 6 (by omega)]; exact hH i hi
  · rw [hM (75 + 3 * i) (by omega), hM (76 + 3 * i) (by omega), hM (77 + 3 * i) (by omega), hN 7 (by omega), hN 8 (by omega), hN 9 (by omega), hN 10 (by omega), hN 11 (by omega)]; exact hP i hi
  · rw [hM 0 (by omega), hM 64 (by omega), h37, hN 20 (by omega)]; exact hW
theorem op_seed : ∀ (v : Int32) (M N : Mem), Inv M N → ∃ r M' N', f_X9_seed 0 v M = some (r, M') ∧ f_X10_seed 0 v N = some (r, N') ∧ Inv M' N' := by
  intro v M N h
  obtain ⟨nT, nF, nX, nC, nE, nL, nS, hT, hF, hX, hL, hC, hR, hD, hN, hO, hZ⟩ := h.1
  have hz : N 1 7 = M 1 8 := hZ.1
  have e : ∀ j, j ≠ 7 → up N 1 7 v 1 j = N 1 j := fun j hj => up_k N 1 7 j v hj
  refine ⟨M 1 8, up M 1 8 v, up N 1 7 v, x_seed v M, by rw [y_seed, hz], inv_now h (fun a ha => up_ne (by omega)) rfl rfl rfl (fun a ha => up_ne (by omega)) ⟨nT, nF, nX, nC, nE, nL, nS, hT.cg (fun j hj => e j (by omega)), hF.cg (fun j hj => e j (by omega)), hX.cg (fun j hj => e j (by omega)), hL.cg hF.2.2.1 (fun j hj => e j (by omega)), hC.cg (fun j hj => e j (by omega)), hR.cg (fun j hj => e j (by omega)), hD.cg (fun j hj => e j (by omega)), hN.cg (fun j hj => e j (by omega)), hO.cg (fun j hj => e j (by omega)), ?_⟩⟩
  exact ⟨by rw [up_same, up_same], (e 8 (by decide)).trans hZ.2.1, hZ.2.2⟩
theorem x_base (v : Int32) (M : Mem) : f_X9_base 0 v M = if 0 ≤ v ∧ v ≤ 9999 then some (M 1 7, up M 1 7 v) else some ((-1000000001), M) := by
  unfold f_X9_base
  simp only [s_within, vv_d, mm_d, jn_d, bd_d, bd_i, r1_0_0, r1_0_1, r1_0_3, r1_0_4, r1_0_6, r1_0_7, r1_1_0, r1_1_1, r1_1_2, r1_1_3, r1_1_4, r1_1_5, r1_1_9, r1_2_1, r1_2_3, r1_2_4, r1_2_5, r1_2_6, r1_2_7, r1_9_1, r1_9_2, r1_9_3, r1_9_4, r1_9_5, r1_9_6, r1_16_0, r1_16_1, r1_19_0, r1_19_2, r1_19_3, r1_19_4, r1_24_1, r1_24_2, r1_24_3, r1_24_5, r1_61_0, r1_61_6, if_b2]
theorem y_base (v : Int32) (N : Mem) : f_X10_base 0 v N = if 0 ≤ v ∧ v ≤ 9999 then some (N 1 8, up N 1 8 v) else some ((-1000000001), N) := by
  unfold f_X10_base
  have hb := y_becomes 8 8 v N rfl (by decide)
  rw [s_isInL v 0 9999 0 9999 N rfl rfl]
  simp only [vv_d, mm_d, jn_d, bd_d, bd_i, hb, if_b2]
theorem rg_of {v : Int32} {c : Int32} {n : Nat} (hc : c.toInt = n) (h0 : 0 ≤ v) (h1 : v ≤ c) : Rg v (n + 1) := by
  obtain ⟨j, hj, e⟩ := nI_of2 (n := n) hc (fun q => Int32.not_lt.mpr h0 q) h1
  exact ⟨j, by omega, e⟩
theorem op_base : ∀ (v : Int32) (M N : Mem), Inv M N → ∃ r M' N', f_X9_base 0 v M = some (r, M') ∧ f_X10_base 0 v N = some (r, N') ∧ Inv M' N' := by
  intro v M N h
  obtain ⟨nT, nF, nX, nC, nE, nL, nS, hT, hF, hX, hL, hC, hR, hD, hN, hO, hZ⟩ := h.1
  rw [x_base, y_base]
  by_cases hv : 0 ≤ v ∧ v ≤ 9999
  · rw [if_pos hv, if_pos hv]
    have e : ∀ j, j ≠ 8 → up N 1 8 v 1 j = N 1 j := fun j hj => up_k N 1 8 j v hj
    refine ⟨M 1 7, up M 1 7 v, up N 1 8 v, rfl, by rw [hZ.2.1], inv_now h (fun a ha => up_ne (by omega)) rfl rfl rfl (fun a ha => up_ne (by omega)) ⟨nT, nF, nX, nC, nE, nL, nS, hT.cg (fun j hj => e j (by omega)), hF.cg (fun j hj => e j (by omega)), hX.cg (fun j hj => e j (by omega)), hL.cg hF.2.2.1 (fun j hj => e j (by omega)), hC.cg (fun j hj => e j (by omega)), hR.cg (fun j hj => e j (by omega)), hD.cg (fun j hj => e j (by omega)), hN.cg (fun j hj => e j (by omega)), hO.cg (fun j hj => e j (by omega)), ?_⟩⟩
    exact ⟨(e 7 (by decide)).trans hZ.1, by rw [up_same, up_same], by rw [up_same]; exact rg_of (n := 9999) rfl hv.1 hv.2⟩
  · rw [if_neg hv, if_neg hv]
    exact ⟨_, M, N, rfl, rfl, h⟩
theorem x_clear (M : Mem) : f_X9_clear 0 M = some (M 1 6, up M 1 6 0) := by
  unfold f_X9_clear
  simp only [vv_d, mm_d, jn_d, bd_d, bd_i, r1_0_0, r1_0_1, r1_0_3, r1_0_4, r1_0_6, r1_0_7, r1_1_0, r1_1_1, r1_1_2, r1_1_3, r1_1_4, r1_1_5, r1_1_9, r1_2_1, r1_2_3, r1_2_4, r1_2_5, r1_2_6, r1_2_7, r1_9_1, r1_9_2, r1_9_3, r1_9_4, r1_9_5, r1_9_6, r1_16_0, r1_16_1, r1_19_0, r1_19_2, r1_19_3, r1_19_4, r1_24_1, r1_24_2, r1_24_3, r1_24_5, r1_61_0, r1_61_6]
theorem y_clear (N : Mem) : f_X10_clear 0 N = some (N 1 3, up N 1 3 0) := by
  unfold f_X10_clear
  rw [y_becomes 3 3 0 N rfl (by decide)]
  simp only [vv_d, mm_d, jn_d, bd_d, bd_i]
theorem op_clear : ∀ (M N : Mem), Inv M N → ∃ r M' N', f_X9_clear 0 M = some (r, M') ∧ f_X10_clear 0 N = some (r, N') ∧ Inv M' N' := by
  intro M N h
  obtain ⟨nT, nF, nX, nC, nE, nL, nS, hT, hF, hX, hL, hC, hR, hD, hN, hO, hZ⟩ := h.1
  have e : ∀ j, j ≠ 3 → up N 1 3 0 1 j = N 1 j := fun j hj => up_k N 1 3 j 0 hj
  have hz : N 1 3 = M 1 6 := hC.2.1.trans hC.1.symm
  refine ⟨M 1 6, up M 1 6 0, up N 1 3 0, x_clear M, by rw [y_clear, hz], inv_now h (fun a ha => up_ne (by omega)) rfl rfl rfl (fun a ha => up_ne (by omega)) ⟨nT, nF, nX, 0, nE, nL, nS, hT.cg (fun j hj => e j (by omega)), hF.cg (fun j hj => e j (by omega)), hX.cg (fun j hj => e j (by omega)), hL.cg hF.2.2.1 (fun j hj => e j (by omega)), ?_, hR.cg (fun j hj => e j (by omega)), hD.cg (fun j hj => e j (by omega)), hN.cg (fun j hj => e j (by omega)), hO.cg (fun j hj => e j (by omega)), hZ.cg (fun j hj => e j (by omega))⟩⟩
  exact ⟨up_same _ _ _ _, up_same _ _ _ _, Nat.zero_le _, fun k hk => absurd hk (Nat.not_lt_zero k)⟩
/-! what a call leaves that touches no state: tape, sheets, slots, what waits -/
theorem rs_same {M M' : Mem} {b : Nat} {g : Nat → Int32} (h : RS' M b g) (hM : ∀ a, b ≤ a → a < b + 30 → M' a = M a) : RS' M' b g := by
  obtain ⟨nT, nF, nX, nC, nE, nL, nS, hR⟩ := h
  refine ⟨nT, nF, nX, nC, nE, nL, nS, ?_⟩
  unfold RS at hR ⊢
  rw [hM b (by omega) (by omega), hM (b + 1) (by omega) (by omega), hM (b + 2) (by omega) (by omega), hM (b + 3) (by omega) (by omega), hM (b + 4) (by omega) (by omega), hM (b + 5) (by omega) (by omega), hM (b + 6) (by omega) (by omega), hM (b + 7) (by omega) (by omega), hM (b + 8) (by omega) (by omega), hM (b + 9) (by omega) (by omega), hM (b + 10) (by omega) (by omega), hM (b + 11) (by omega) (by omega), hM (b + 12) (by omega) (by omega), hM (b + 13) (by omega) (by omega), hM (b + 16) (by omega) (by omega), hM (b + 17) (by omega) (by omega), hM (b + 28) (by omega) (by omega), hM (b + 19) (by omega) (by omega), hM (b + 18) (by omega) (by omega), hM (b + 20) (by omega) (by omega), hM (b + 21) (by omega) (by omega), hM (b + 23) (by omega) (by omega), hM (b + 24) (by omega) (by omega), hM (b + 25) (by omega) (by omega), hM (b + 26) (by omega) (by omega), hM (b + 27) (by omega) (by omega)]
  exact hR
theorem inv_out {M N M' N' : Mem} (h : Inv M N) (hM : ∀ a, 1 ≤ a → a < 61 → M' a = M a) (h2 : M' 0 2 = M 0 2) (h3 : N' 0 3 = N 0 3) (hN : ∀ a, a = 1 ∨ a = 2 → N' a = N a)
    (hB : RB (M' 61 1) (N' 0 13) (M' 62) (N' 12)) (hH : ∀ i, i < 4 → RH (M' (66 + 2 * i) 0) (M' (66 + 2 * i) 1) (M' (67 + 2 * i)) (N' 4 i) (N' 5 i) (N' 6) i) (hP : ∀ i, i < 5 → RP (M' (75 + 3 * i) 0) (M' (75 + 3 * i) 1) (M' (75 + 3 * i) 2) (M' (75 + 3 * i) 3) (M' (76 + 3 * i) 1) (M' (77 + 3 * i)) (N' 7 i) (N' 8 i) (N' 9 i) (N' 10 i) (N' 11) i) (hW : RW (M' 0 5) (N' 0 37) (M' 64) (N' 20)) : Inv M' N' := by
  obtain ⟨hS, hI, -, -, -, -⟩ := h
  refine ⟨by rw [hN 1 (Or.inl rfl)]; exact rs_same hS (fun a h1 h2 => hM a h1 (by omega)), ?_, hB, hH, hP, hW⟩
  unfold RI at hI ⊢
  rw [h2, h3, hN 2 (Or.inr rfl)]
  rcases hI with hI | ⟨a1, a2, a3⟩
  · exact Or.inl hI
  · exact Or.inr ⟨a1, a2, rs_same a3 (fun a h1 h2 => hM a (by omega) (by omega))⟩
/-! trim, tell -/
theorem x_trim (v : Int32) (M : Mem) : f_X9_trim 0 v M = if 0 ≤ v ∧ v ≤ M 61 1 then some (v, up M 61 1 v) else some ((-1000000001), M) := by
  unfold f_X9_trim
  simp only [s_within, vv_d, mm_d, jn_d, bd_d, bd_i, r1_0_0, r1_0_1, r1_0_3, r1_0_4, r1_0_6, r1_0_7, r1_1_0, r1_1_1, r1_1_2, r1_1_3, r1_1_4, r1_1_5, r1_1_9, r1_2_1, r1_2_3, r1_2_4, r1_2_5, r1_2_6, r1_2_7, r1_9_1, r1_9_2, r1_9_3, r1_9_4, r1_9_5, r1_9_6, r1_16_0, r1_16_1, r1_19_0, r1_19_2, r1_19_3, r1_19_4, r1_24_1, r1_24_2, r1_24_3, r1_24_5, r1_61_0, r1_61_6, if_b2]
theorem y_trim (v : Int32) (N : Mem) : f_X10_trim 0 v N = if 0 ≤ v ∧ v ≤ N 0 13 then some (v, up N 0 13 v) else some ((-1000000001), N) := by
  unfold f_X10_trim
  simp only [vv_d, mm_d, jn_d, bd_d, bd_i, s_isInL v 0 (Int32.toInt64 (N 0 13)) 0 (N 0 13) N rfl rfl, if_b2]
theorem op_trim : ∀ (v : Int32) (M N : Mem), Inv M N → ∃ r M' N', f_X9_trim 0 v M = some (r, M') ∧ f_X10_trim 0 v N = some (r, N') ∧ Inv M' N' := by
  intro v M N h
  obtain ⟨hS, hI, hB, hH, hP, hW⟩ := id h
  obtain ⟨n, hn, b1, b2, b3⟩ := hB
  rw [x_trim, y_trim, b1, b2]
  by_cases hv : 0 ≤ v ∧ v ≤ nI n
  · rw [if_pos hv, if_pos hv]
    obtain ⟨k, hk, ek⟩ := rg_of (n := n) (nI_toInt (by omega)) hv.1 hv.2
    refine ⟨v, _, _, rfl, rfl, inv_out h (fun a h1 h2 => up_ne (by omega)) rfl rfl (fun a ha => up_ne (by omega)) ?_ (fun i hi => ?_) (fun i hi => ?_) hW⟩
    · exact ⟨k, by omega, by rw [up_same]; exact ek, by rw [up_same]; exact ek, fun j hj => b3 j (by omega)⟩
    · rw [up_ne (show 66 + 2 * i ≠ 61 by omega), up_ne (show 67 + 2 * i ≠ 61 by omega)]
      exact hH i hi
    · rw [up_ne (show 75 + 3 * i ≠ 61 by omega), up_ne (show 76 + 3 * i ≠ 61 by omega), up_ne (show 77 + 3 * i ≠ 61 by omega)]
      exact hP i hi
  · rw [if_neg hv, if_neg hv]
    exact ⟨_, M, N, rfl, rfl, h⟩
theorem op_tell : ∀ (v : Int32) (M N : Mem), Inv M N → ∃ r M' N', f_X9_tell 0 v M = some (r, M') ∧ f_X10_tell 0 v N = some (r, N') ∧ Inv M' N' := by
  intro v M N h
  obtain ⟨hS, hI, hB, hH, hP, hW⟩ := id h
  obtain ⟨n, hn, w1, w2, w3⟩ := hW
  by_cases hf : n = 60
  · refine ⟨(-1000000003), M, N, ?_, ?_, h⟩
    · unfold f_X9_tell
      simp only [vv_d, mm_d, jn_d, bd_d, bd_i, r1_0_0, r1_0_1, r1_0_3, r1_0_4, r1_0_6, r1_0_7, r1_1_0, r1_1_1, r1_1_2, r1_1_3, r1_1_4, r1_1_5, r1_1_9, r1_2_1, r1_2_3, r1_2_4, r1_2_5, r1_2_6, r1_2_7, r1_9_1, r1_9_2, r1_9_3, r1_9_4, r1_9_5, r1_9_6, r1_16_0, r1_16_1, r1_19_0, r1_19_2, r1_19_3, r1_19_4, r1_24_1, r1_24_2, r1_24_3, r1_24_5, r1_61_0, r1_61_6]
      rw [w1, hf]
      rfl
    · unfold f_X10_tell
      simp only [vv_d, mm_d, jn_d, bd_d, bd_i, r2_0_0, r2_0_1, r2_0_2, r2_0_4, r2_0_5, r2_0_6, r2_0_7, r2_0_8, r2_0_9, r2_0_10, r2_0_11, r2_0_12, r2_0_24, r2_0_25, r2_0_28, r2_0_29, r2_0_30, r2_0_34, r2_0_35, r2_0_36, r2_0_38]
      rw [w2, hf]
      rfl
  · have hlt : nI n < 60 := nI_lt (a := n) (b := 60) (by omega) (by decide)
    have hne : ¬ nI n = 60 := fun q => hf ((nI_eq (a := n) (b := 60) (by omega) (by decide)).mp q)
    refine ⟨nI (n + 1), up (up M 64 n v) 0 5 (nI (n + 1)), up (up N 20 n v) 0 37 (nI (n + 1)), ?_, ?_, ?_⟩
    · unfold f_X9_tell
      simp only [vv_d, mm_d, jn_d, bd_d, bd_i, r1_0_0, r1_0_1, r1_0_3, r1_0_4, r1_0_6, r1_0_7, r1_1_0, r1_1_1, r1_1_2, r1_1_3, r1_1_4, r1_1_5, r1_1_9, r1_2_1, r1_2_3, r1_2_4, r1_2_5, r1_2_6, r1_2_7, r1_9_1, r1_9_2, r1_9_3, r1_9_4, r1_9_5, r1_9_6, r1_16_0, r1_16_1, r1_19_0, r1_19_2, r1_19_3, r1_19_4, r1_24_1, r1_24_2, r1_24_3, r1_24_5, r1_61_0, r1_61_6]
      rw [w1, if_pos hlt, st_n n rfl (by omega) (by decide)]
      simp only [vv_d, mm_d, jn_d, bd_d, bd_i, up_same]
      rw [up_a M 64 n 0 5 v (by decide), w1, nI_1]
    · unfold f_X10_tell
      simp only [vv_d, mm_d, jn_d, bd_d, bd_i, r2_0_0, r2_0_1, r2_0_2, r2_0_4, r2_0_5, r2_0_6, r2_0_7, r2_0_8, r2_0_9, r2_0_10, r2_0_11, r2_0_12, r2_0_24, r2_0_25, r2_0_28, r2_0_29, r2_0_30, r2_0_34, r2_0_35, r2_0_36, r2_0_38]
      rw [w2, if_neg hne, st_n n rfl (by omega) (by decide)]
      simp only [vv_d, mm_d, jn_d, bd_d, bd_i, up_same]
      rw [up_a N 20 n 0 37 v (by decide), w2, nI_1]
    · refine inv_out h (fun a h1 h2 => by rw [up_ne (by omega), up_ne (by omega)]) rfl rfl (fun a ha => by rw [up_ne (by omega), up_ne (by omega)]) hB (fun i hi => ?_) (fun i hi => ?_) ?_
      · rw [up_ne (show 66 + 2 * i ≠ 0 by omega), up_ne (show 67 + 2 * i ≠ 0 by omega), up_ne (show 66 + 2 * i ≠ 64 by omega), up_ne (show 67 + 2 * i ≠ 64 by omega)]
        exact hH i hi
      · rw [up_ne (show 75 + 3 * i ≠ 0 by omega), up_ne (show 76 + 3 * i ≠ 0 by omega), up_ne (show 77 + 3 * i ≠ 0 by omega), up_ne (show 75 + 3 * i ≠ 64 by omega), up_ne (show 76 + 3 * i ≠ 64 by omega), up_ne (show 77 + 3 * i ≠ 64 by omega)]
        exact hP i hi
      · refine ⟨n + 1, by omega, up_same _ _ _ _, up_same _ _ _ _, fun j hj => ?_⟩
        rw [up_ne (show 64 ≠ 0 by decide), up_ne (show 20 ≠ 0 by decide)]
        by_cases hjn : j = n
        · subst hjn
          rw [up_same, up_same]
        · rw [up_k N 20 n j v hjn, up_k M 64 n j v hjn]
          exact w3 j (by omega)
