/-! two programs, one answer -/
def R2 (Q : Int32 → Mem → Mem → Prop) (x y : Option (Int32 × Mem)) : Prop := ∃ r M' N', x = some (r, M') ∧ y = some (r, N') ∧ Q r M' N'
theorem R2.mk {Q : Int32 → Mem → Mem → Prop} {r : Int32} {M N : Mem} (h : Q r M N) : R2 Q (some (r, M)) (some (r, N)) := ⟨r, M, N, rfl, rfl, h⟩
theorem R2.same {x y : Option (Int32 × Mem)} (h : R2 (fun _ M N => Inv M N) x y) : Same x y := h
theorem lr22 {Q : Int32 → Mem → Mem → Prop} {A1 A2 C1 C2 : Type} {A : (A1 → A2 → Mem → Option (Int32 × Mem)) → A1 → A2 → Mem → Option (Int32 × Mem)} {C : (C1 → C2 → Mem → Option (Int32 × Mem)) → C1 → C2 → Mem → Option (Int32 × Mem)} (I : Nat → A1 → A2 → Mem → C1 → C2 → Mem → Prop) (hs : ∀ (n : Nat) (rc : A1 → A2 → Mem → Option (Int32 × Mem)) (rd : C1 → C2 → Mem → Option (Int32 × Mem)) (a : A1) (b : A2) (M : Mem) (c : C1) (d : C2) (N : Mem), I n a b M c d N → (∀ m a' b' M' c' d' N', m < n → I m a' b' M' c' d' N' → R2 Q (rc a' b' M') (rd c' d' N')) → R2 Q (A rc a b M) (C rd c d N)) : ∀ f g n a b M c d N, n < f → n < g → I n a b M c d N → R2 Q (it2 A f a b M) (it2 C g c d N) := by
  intro f
  induction f with
  | zero => intro g n a b M c d N h; omega
  | succ f ih =>
    intro g
    cases g with
    | zero => intro n a b M c d N h h2; omega
    | succ g => intro n a b M c d N h h2 hI; exact hs n _ _ a b M c d N hI (fun m a' b' M' c' d' N' hm hI' => ih g m a' b' M' c' d' N' (by omega) (by omega) hI')
theorem lr32 {Q : Int32 → Mem → Mem → Prop} {A1 A2 A3 C1 C2 : Type} {A : (A1 → A2 → A3 → Mem → Option (Int32 × Mem)) → A1 → A2 → A3 → Mem → Option (Int32 × Mem)} {C : (C1 → C2 → Mem → Option (Int32 × Mem)) → C1 → C2 → Mem → Option (Int32 × Mem)} (I : Nat → A1 → A2 → A3 → Mem → C1 → C2 → Mem → Prop) (hs : ∀ (n : Nat) (rc : A1 → A2 → A3 → Mem → Option (Int32 × Mem)) (rd : C1 → C2 → Mem → Option (Int32 × Mem)) (a : A1) (b : A2) (a3 : A3) (M : Mem) (c : C1) (d : C2) (N : Mem), I n a b a3 M c d N → (∀ m a' b' a3' M' c' d' N', m < n → I m a' b' a3' M' c' d' N' → R2 Q (rc a' b' a3' M') (rd c' d' N')) → R2 Q (A rc a b a3 M) (C rd c d N)) : ∀ f g n a b a3 M c d N, n < f → n < g → I n a b a3 M c d N → R2 Q (it3 A f a b a3 M) (it2 C g c d N) := by
  intro f
  induction f with
  | zero => intro g n a b a3 M c d N h; omega
  | succ f ih =>
    intro g
    cases g with
    | zero => intro n a b a3 M c d N h h2; omega
    | succ g => intro n a b a3 M c d N h h2 hI; exact hs n _ _ a b a3 M c d N hI (fun m a' b' a3' M' c' d' N' hm hI' => ih g m a' b' a3' M' c' d' N' (by omega) (by omega) hI')
theorem lr33 {Q : Int32 → Mem → Mem → Prop} {A1 A2 A3 C1 C2 C3 : Type} {A : (A1 → A2 → A3 → Mem → Option (Int32 × Mem)) → A1 → A2 → A3 → Mem → Option (Int32 × Mem)} {C : (C1 → C2 → C3 → Mem → Option (Int32 × Mem)) → C1 → C2 → C3 → Mem → Option (Int32 × Mem)} (I : Nat → A1 → A2 → A3 → Mem → C1 → C2 → C3 → Mem → Prop) (hs : ∀ (n : Nat) (rc : A1 → A2 → A3 → Mem → Option (Int32 × Mem)) (rd : C1 → C2 → C3 → Mem → Option (Int32 × Mem)) (a : A1) (b : A2) (a3 : A3) (M : Mem) (c : C1) (d : C2) (c3 : C3) (N : Mem), I n a b a3 M c d c3 N → (∀ m a' b' a3' M' c' d' c3' N', m < n → I m a' b' a3' M' c' d' c3' N' → R2 Q (rc a' b' a3' M') (rd c' d' c3' N')) → R2 Q (A rc a b a3 M) (C rd c d c3 N)) : ∀ f g n a b a3 M c d c3 N, n < f → n < g → I n a b a3 M c d c3 N → R2 Q (it3 A f a b a3 M) (it3 C g c d c3 N) := by
  intro f
  induction f with
  | zero => intro g n a b a3 M c d c3 N h; omega
  | succ f ih =>
    intro g
    cases g with
    | zero => intro n a b a3 M c d c3 N h h2; omega
    | succ g => intro n a b a3 M c d c3 N h h2 hI; exact hs n _ _ a b a3 M c d c3 N hI (fun m a' b' a3' M' c' d' c3' N' hm hI' => ih g m a' b' a3' M' c' d' c3' N' (by omega) (by omega) hI')
/-- the second alone goes round -/
theorem ro1 {Q : Int32 → Mem → Mem → Prop} {x : Option (Int32 × Mem)} {C1 : Type} {C : (C1 → Mem → Option (Int32 × Mem)) → C1 → Mem → Option (Int32 × Mem)} (I : Nat → C1 → Mem → Prop) (hs : ∀ (n : Nat) (rd : C1 → Mem → Option (Int32 × Mem)) (c : C1) (N : Mem), I n c N → (∀ m c' N', m < n → I m c' N' → R2 Q x (rd c' N')) → R2 Q x (C rd c N)) : ∀ g n c N, n < g → I n c N → R2 Q x (it1 C g c N) := by
  intro g
  induction g with
  | zero => intro n c N h; omega
  | succ g ih => intro n c N h hI; exact hs n _ c N hI (fun m c' N' hm hI' => ih m c' N' (by omega) hI')
theorem ro2 {Q : Int32 → Mem → Mem → Prop} {x : Option (Int32 × Mem)} {C1 C2 : Type} {C : (C1 → C2 → Mem → Option (Int32 × Mem)) → C1 → C2 → Mem → Option (Int32 × Mem)} (I : Nat → C1 → C2 → Mem → Prop) (hs : ∀ (n : Nat) (rd : C1 → C2 → Mem → Option (Int32 × Mem)) (c : C1) (d : C2) (N : Mem), I n c d N → (∀ m c' d' N', m < n → I m c' d' N' → R2 Q x (rd c' d' N')) → R2 Q x (C rd c d N)) : ∀ g n c d N, n < g → I n c d N → R2 Q x (it2 C g c d N) := by
  intro g
  induction g with
  | zero => intro n c d N h; omega
  | succ g ih => intro n c d N h hI; exact hs n _ c d N hI (fun m c' d' N' hm hI' => ih m c' d' N' (by omega) hI')
theorem ro3 {Q : Int32 → Mem → Mem → Prop} {x : Option (Int32 × Mem)} {C1 C2 C3 : Type} {C : (C1 → C2 → C3 → Mem → Option (Int32 × Mem)) → C1 → C2 → C3 → Mem → Option (Int32 × Mem)} (I : Nat → C1 → C2 → C3 → Mem → Prop) (hs : ∀ (n : Nat) (rd : C1 → C2 → C3 → Mem → Option (Int32 × Mem)) (c : C1) (d : C2) (c3 : C3) (N : Mem), I n c d c3 N → (∀ m c' d' c3' N', m < n → I m c' d' c3' N' → R2 Q x (rd c' d' c3' N')) → R2 Q x (C rd c d c3 N)) : ∀ g n c d c3 N, n < g → I n c d c3 N → R2 Q x (it3 C g c d c3 N) := by
  intro g
  induction g with
  | zero => intro n c d c3 N h; omega
  | succ g ih => intro n c d c3 N h hI; exact hs n _ c d c3 N hI (fun m c' d' c3' N' hm hI' => ih m c' d' c3' N' (by omega) hI')
theorem nI_or16 {a b : Nat} (ha : a < 65536) (hb : b < 65536) : nI a ||| nI b = nI (a ||| b) := nI_or 16 (by decide) ha hb
theorem or16 {a b : Nat} (ha : a < 65536) (hb : b < 65536) : a ||| b < 65536 := Nat.or_lt_two_pow (n := 16) ha hb
theorem or8 {a b : Nat} (ha : a < 256) (hb : b < 256) : a ||| b < 256 := Nat.or_lt_two_pow (n := 8) ha hb
theorem pow16 {k : Nat} (h : k < 16) : 2 ^ k < 65536 := Nat.pow_lt_pow_right (a := 2) (by decide) h
theorem pow8 {k : Nat} (h : k < 8) : 2 ^ k < 256 := Nat.pow_lt_pow_right (a := 2) (by decide) h
theorem fallen_eq {M N : Mem} (h : Inv M N) (p : Int32) : ∃ m, m < 65536 ∧ f_X1_fallen 24 p M = some (nI m, M) ∧ f_X10_fallen 0 p N = some (nI m, N) := by
  obtain ⟨nT, nF, nX, nC, nE, nL, nS, hS, hT, hF, hX, hL, hC, hR, hD, hN, hO, hZ⟩ := h.st
  obtain ⟨n1, n2, n3, n4⟩ := id hN
  have key : R2 (fun r M' N' => (∃ m, m < 65536 ∧ r = nI m) ∧ M' = M ∧ N' = N) (f_X1_fallen 24 p M) (f_X10_fallen 0 p N) := by
    unfold f_X1_fallen f_X10_fallen
    simp only [vv_e, mm_e, jn_e, bd_e, bd_i, e1_0_0, e1_0_1, e1_0_3, e1_0_4, e1_0_6, e1_0_7, e1_1_0, e1_1_1, e1_1_2, e1_1_3, e1_1_4, e1_1_5, e1_1_9, e1_2_1, e1_2_3, e1_2_4, e1_2_5, e1_2_6, e1_2_7, e1_9_1, e1_9_2, e1_9_3, e1_9_4, e1_9_5, e1_9_6, e1_16_0, e1_16_1, e1_19_0, e1_19_2, e1_19_3, e1_19_4, e1_24_1, e1_24_2, e1_24_3, e1_24_5, e1_61_0, e1_61_6, e2_0_0, e2_0_1, e2_0_2, e2_0_4, e2_0_5, e2_0_6, e2_0_7, e2_0_8, e2_0_9, e2_0_10, e2_0_11, e2_0_12, e2_0_24, e2_0_25, e2_0_28, e2_0_29, e2_0_30, e2_0_34, e2_0_35, e2_0_36, e2_0_38]
    refine lr22 (fun n v d M' w e N' => ∃ k s, k + n = nL ∧ d = nI k ∧ e = nI k ∧ v = nI s ∧ w = nI s ∧ s < 65536 ∧ M' = M ∧ N' = N) ?_ fuel fuel nL _ _ M _ _ N (by show nL < 5000; omega) (by show nL < 5000; omega) ⟨0, 0, by omega, rfl, rfl, rfl, rfl, by omega, rfl, rfl⟩
    rintro n rc rd v d M' w e N' ⟨k, s, hk, rfl, rfl, rfl, rfl, hs, E1, E2⟩ ih
    rw [E1, E2]
    by_cases hkn : k = nL
    · subst hkn
      simp (maxSteps := 1000000) (disch := omega) only [ld_i, st_i, la_i, sl_i, nI_add, pk_mul, pk_sub, ng_add, neg_neg_n, nlt, nle, neq, ng_lt, gn_lt, gg_lt, ng_le, gn_le, gg_le, ng_eq, gn_eq, gg_eq, dv_i, if_pos, if_neg, ite_tt, ite_ff, if_b2, if_b2n, l_0, l_1, l_2, l_3, l_4, l_5, l_6, l_7, l_8, l_9, l_10, l_11, l_12, l_13, l_16, l_20, l_24, l_30, l_32, l_33, l_38, l_42, l_43, l_45, l_47, l_48, l_50, l_57, l_60, l_61, l_62, l_96, l_97, l_99, l_100, l_102, l_105, l_110, l_121, l_122, l_124, l_128, l_200, l_255, l_270, l_350, l_360, l_400, l_440, l_490, l_500, l_999, l_1000, l_9999, l_10000, l_99999, l_100000, l_1000000, l_1000000001, l_1000000002, l_1000000003, l_1000000005, l_1000000011, l_1000000012, l_1000000013, l_1000000014, n1, n2]
      exact R2.mk ⟨⟨s, hs, rfl⟩, rfl, rfl⟩
    obtain ⟨a1, a2, a3, ⟨a, b1, b2⟩, ⟨c, b3, b4⟩, ⟨nd, b5, b6⟩⟩ := n4 k (by omega)
    rw [show 441 + 3 * k = 440 + 3 * k + 1 by omega] at a2
    rw [show 442 + 3 * k = 440 + 3 * k + 2 by omega] at a3
    obtain ⟨m1, hm1, g1⟩ := and_any a (by omega) (p ^^^ -nI 1)
    obtain ⟨m2, hm2, g2⟩ := and_any c (by omega) (nI s ^^^ -nI 1)
    have p1 := pop_le m1
    have p2 := pop_le m2
    have hpw := pow16 (show k < 16 by omega)
    by_cases hlt : pop16 m1 + pop16 m2 < nd
    · simp (maxSteps := 1000000) (disch := omega) only [vv_e, mm_e, jn_e, bd_e, bd_i, ld_i, st_i, la_i, sl_i, nI_add, pk_mul, pk_sub, ng_add, neg_neg_n, nlt, nle, neq, ng_lt, gn_lt, gg_lt, ng_le, gn_le, gg_le, ng_eq, gn_eq, gg_eq, dv_i, if_pos, if_neg, ite_tt, ite_ff, if_b2, if_b2n, l_0, l_1, l_2, l_3, l_4, l_5, l_6, l_7, l_8, l_9, l_10, l_11, l_12, l_13, l_16, l_20, l_24, l_30, l_32, l_33, l_38, l_42, l_43, l_45, l_47, l_48, l_50, l_57, l_60, l_61, l_62, l_96, l_97, l_99, l_100, l_102, l_105, l_110, l_121, l_122, l_124, l_128, l_200, l_255, l_270, l_350, l_360, l_400, l_440, l_490, l_500, l_999, l_1000, l_9999, l_10000, l_99999, l_100000, l_1000000, l_1000000001, l_1000000002, l_1000000003, l_1000000005, l_1000000011, l_1000000012, l_1000000013, l_1000000014, n1, n2, a1, a2, a3, b2, b4, b6, g1, g2, x_bc, y_ones, and_31, shl_1, nI_or16]
      exact ih (n - 1) _ _ _ _ _ _ (by omega) ⟨k + 1, s ||| 2 ^ k, by omega, rfl, rfl, rfl, rfl, or16 hs hpw, rfl, rfl⟩
    · simp (maxSteps := 1000000) (disch := omega) only [vv_e, mm_e, jn_e, bd_e, bd_i, ld_i, st_i, la_i, sl_i, nI_add, pk_mul, pk_sub, ng_add, neg_neg_n, nlt, nle, neq, ng_lt, gn_lt, gg_lt, ng_le, gn_le, gg_le, ng_eq, gn_eq, gg_eq, dv_i, if_pos, if_neg, ite_tt, ite_ff, if_b2, if_b2n, l_0, l_1, l_2, l_3, l_4, l_5, l_6, l_7, l_8, l_9, l_10, l_11, l_12, l_13, l_16, l_20, l_24, l_30, l_32, l_33, l_38, l_42, l_43, l_45, l_47, l_48, l_50, l_57, l_60, l_61, l_62, l_96, l_97, l_99, l_100, l_102, l_105, l_110, l_121, l_122, l_124, l_128, l_200, l_255, l_270, l_350, l_360, l_400, l_440, l_490, l_500, l_999, l_1000, l_9999, l_10000, l_99999, l_100000, l_1000000, l_1000000001, l_1000000002, l_1000000003, l_1000000005, l_1000000011, l_1000000012, l_1000000013, l_1000000014, n1, n2, a1, a2, a3, b2, b4, b6, g1, g2, x_bc, y_ones, or_0]
      exact ih (n - 1) _ _ _ _ _ _ (by omega) ⟨k + 1, s, by omega, rfl, rfl, rfl, rfl, hs, rfl, rfl⟩
  obtain ⟨r, M', N', e1, e2, ⟨m, hm, rfl⟩, rfl, rfl⟩ := key
  exact ⟨m, hm, e1, e2⟩
theorem low_n {n : Nat} (hn : n < 31) (M : Mem) : f_X9_lowBits (nI n) M = some (nI (2 ^ n - 1), M) := by
  unfold f_X9_lowBits
  have := Nat.two_pow_pos n
  simp (maxSteps := 1000000) (disch := omega) only [ld_i, st_i, la_i, sl_i, nI_add, pk_mul, pk_sub, ng_add, neg_neg_n, nlt, nle, neq, ng_lt, gn_lt, gg_lt, ng_le, gn_le, gg_le, ng_eq, gn_eq, gg_eq, dv_i, if_pos, if_neg, ite_tt, ite_ff, if_b2, if_b2n, l_0, l_1, l_2, l_3, l_4, l_5, l_6, l_7, l_8, l_9, l_10, l_11, l_12, l_13, l_16, l_20, l_24, l_30, l_32, l_33, l_38, l_42, l_43, l_45, l_47, l_48, l_50, l_57, l_60, l_61, l_62, l_96, l_97, l_99, l_100, l_102, l_105, l_110, l_121, l_122, l_124, l_128, l_200, l_255, l_270, l_350, l_360, l_400, l_440, l_490, l_500, l_999, l_1000, l_9999, l_10000, l_99999, l_100000, l_1000000, l_1000000001, l_1000000002, l_1000000003, l_1000000005, l_1000000011, l_1000000012, l_1000000013, l_1000000014, and_31, shl_1]
theorem op_falls : ∀ (p : Int32) (M N : Mem), Inv M N → Same (f_X9_falls 0 p M) (f_X10_falls 0 p N) := by
  intro p M N h
  obtain ⟨m, hm, e1, e2⟩ := fallen_eq h p
  unfold f_X9_falls f_X10_falls
  rw [s_isInL p 0 4095 0 4095 N rfl rfl, show f_X9_lowBits 12 M = some (4095, M) from rfl]
  simp only [vv_e, mm_e, jn_e, bd_e, bd_i, e1_0_0, e1_0_1, e1_0_3, e1_0_4, e1_0_6, e1_0_7, e1_1_0, e1_1_1, e1_1_2, e1_1_3, e1_1_4, e1_1_5, e1_1_9, e1_2_1, e1_2_3, e1_2_4, e1_2_5, e1_2_6, e1_2_7, e1_9_1, e1_9_2, e1_9_3, e1_9_4, e1_9_5, e1_9_6, e1_16_0, e1_16_1, e1_19_0, e1_19_2, e1_19_3, e1_19_4, e1_24_1, e1_24_2, e1_24_3, e1_24_5, e1_61_0, e1_61_6, s_within, if_b2, e1, e2]
  by_cases hp : 0 ≤ p ∧ p ≤ 4095
  · rw [if_pos hp, if_pos hp]
    exact Same.mk h
  · rw [if_neg hp, if_neg hp]
    exact Same.mk h
theorem op_left : ∀ (p : Int32) (M N : Mem), Inv M N → Same (f_X9_left 0 p M) (f_X10_left 0 p N) := by
  intro p M N h
  obtain ⟨nT, nF, nX, nC, nE, nL, nS, hS, hT, hF, hX, hL, hC, hR, hD, hN, hO, hZ⟩ := h.st
  obtain ⟨n1, n2, n3, n4⟩ := id hN
  obtain ⟨m, hm, e1, e2⟩ := fallen_eq h p
  unfold f_X9_left f_X10_left
  rw [s_isInL p 0 4095 0 4095 N rfl rfl, show f_X9_lowBits 12 M = some (4095, M) from rfl]
  unfold f_X9_lowBits
  simp only [vv_e, mm_e, jn_e, bd_e, bd_i, e1_0_0, e1_0_1, e1_0_3, e1_0_4, e1_0_6, e1_0_7, e1_1_0, e1_1_1, e1_1_2, e1_1_3, e1_1_4, e1_1_5, e1_1_9, e1_2_1, e1_2_3, e1_2_4, e1_2_5, e1_2_6, e1_2_7, e1_9_1, e1_9_2, e1_9_3, e1_9_4, e1_9_5, e1_9_6, e1_16_0, e1_16_1, e1_19_0, e1_19_2, e1_19_3, e1_19_4, e1_24_1, e1_24_2, e1_24_3, e1_24_5, e1_61_0, e1_61_6, e2_0_0, e2_0_1, e2_0_2, e2_0_4, e2_0_5, e2_0_6, e2_0_7, e2_0_8, e2_0_9, e2_0_10, e2_0_11, e2_0_12, e2_0_24, e2_0_25, e2_0_28, e2_0_29, e2_0_30, e2_0_34, e2_0_35, e2_0_36, e2_0_38, s_within, if_b2, e1, e2, n1, n2, ld_5]
  by_cases hp : 0 ≤ p ∧ p ≤ 4095
  · rw [if_pos hp, if_pos hp]
    exact Same.mk h
  · rw [if_neg hp, if_neg hp]
    exact Same.mk h
theorem op_pillar : ∀ (M N : Mem), Inv M N → Same (f_X9_pillar 0 M) (f_X10_pillar 0 N) := by
  intro M N h
  obtain ⟨nT, nF, nX, nC, nE, nL, nS, hS, hT, hF, hX, hL, hC, hR, hD, hN, hO, hZ⟩ := h.st
  obtain ⟨t1, t2, t3, t4, t5⟩ := id hT
  apply R2.same
  unfold f_X9_pillar f_X10_pillar
  simp only [vv_e, mm_e, jn_e, bd_e, bd_i, e1_0_0, e1_0_1, e1_0_3, e1_0_4, e1_0_6, e1_0_7, e1_1_0, e1_1_1, e1_1_2, e1_1_3, e1_1_4, e1_1_5, e1_1_9, e1_2_1, e1_2_3, e1_2_4, e1_2_5, e1_2_6, e1_2_7, e1_9_1, e1_9_2, e1_9_3, e1_9_4, e1_9_5, e1_9_6, e1_16_0, e1_16_1, e1_19_0, e1_19_2, e1_19_3, e1_19_4, e1_24_1, e1_24_2, e1_24_3, e1_24_5, e1_61_0, e1_61_6, e2_0_0, e2_0_1, e2_0_2, e2_0_4, e2_0_5, e2_0_6, e2_0_7, e2_0_8, e2_0_9, e2_0_10, e2_0_11, e2_0_12, e2_0_24, e2_0_25, e2_0_28, e2_0_29, e2_0_30, e2_0_34, e2_0_35, e2_0_36, e2_0_38]
  refine lr32 (fun n v1 v2 v3 M' w e N' => ∃ k, k + n = nT ∧ v3 = nI k ∧ e = nI k ∧ M' = M ∧ N' = N ∧ ((v1 = -nI 1000000005 ∧ v2 = -nI 1 ∧ w = -nI 1) ∨ ∃ b m, b < 12 ∧ v1 = nI b ∧ w = nI b ∧ m < 65536 ∧ v2 = nI (pop16 m) ∧ f_X10_fallen 0 (nI (2 ^ b)) N = some (nI m, N))) ?_ fuel fuel nT _ _ _ M _ _ N (by show nT < 5000; omega) (by show nT < 5000; omega) ⟨0, by omega, rfl, rfl, rfl, rfl, Or.inl ⟨rfl, rfl, rfl⟩⟩
  rintro n rc rd v1 v2 v3 M' w e N' ⟨k, hk, rfl, rfl, E1, E2, hv⟩ ih
  rw [E1, E2]
  by_cases hkn : k = nT
  · subst hkn
    rcases hv with ⟨rfl, rfl, rfl⟩ | ⟨b, m, hb, rfl, rfl, hm, rfl, hfb⟩
    · simp (maxSteps := 1000000) (disch := omega) only [vv_e, mm_e, jn_e, bd_e, bd_i, ld_i, st_i, la_i, sl_i, nI_add, pk_mul, pk_sub, ng_add, neg_neg_n, nlt, nle, neq, ng_lt, gn_lt, gg_lt, ng_le, gn_le, gg_le, ng_eq, gn_eq, gg_eq, dv_i, if_pos, if_neg, ite_tt, ite_ff, if_b2, if_b2n, l_0, l_1, l_2, l_3, l_4, l_5, l_6, l_7, l_8, l_9, l_10, l_11, l_12, l_13, l_16, l_20, l_24, l_30, l_32, l_33, l_38, l_42, l_43, l_45, l_47, l_48, l_50, l_57, l_60, l_61, l_62, l_96, l_97, l_99, l_100, l_102, l_105, l_110, l_121, l_122, l_124, l_128, l_200, l_255, l_270, l_350, l_360, l_400, l_440, l_490, l_500, l_999, l_1000, l_9999, l_10000, l_99999, l_100000, l_1000000, l_1000000001, l_1000000002, l_1000000003, l_1000000005, l_1000000011, l_1000000012, l_1000000013, l_1000000014, t1, t2, orN_ng]
      exact R2.mk h
    · simp (maxSteps := 1000000) (disch := omega) only [vv_e, mm_e, jn_e, bd_e, bd_i, ld_i, st_i, la_i, sl_i, nI_add, pk_mul, pk_sub, ng_add, neg_neg_n, nlt, nle, neq, ng_lt, gn_lt, gg_lt, ng_le, gn_le, gg_le, ng_eq, gn_eq, gg_eq, dv_i, if_pos, if_neg, ite_tt, ite_ff, if_b2, if_b2n, l_0, l_1, l_2, l_3, l_4, l_5, l_6, l_7, l_8, l_9, l_10, l_11, l_12, l_13, l_16, l_20, l_24, l_30, l_32, l_33, l_38, l_42, l_43, l_45, l_47, l_48, l_50, l_57, l_60, l_61, l_62, l_96, l_97, l_99, l_100, l_102, l_105, l_110, l_121, l_122, l_124, l_128, l_200, l_255, l_270, l_350, l_360, l_400, l_440, l_490, l_500, l_999, l_1000, l_9999, l_10000, l_99999, l_100000, l_1000000, l_1000000001, l_1000000002, l_1000000003, l_1000000005, l_1000000011, l_1000000012, l_1000000013, l_1000000014, t1, t2, orN_nI]
      exact R2.mk h
  obtain ⟨m, hm, e1, e2⟩ := fallen_eq h (nI (2 ^ k))
  have p1 := pop_le m
  rcases hv with ⟨rfl, rfl, rfl⟩ | ⟨b, mb, hb, rfl, rfl, hmb, rfl, hfb⟩
  · simp (maxSteps := 1000000) (disch := omega) only [vv_e, mm_e, jn_e, bd_e, bd_i, ld_i, st_i, la_i, sl_i, nI_add, pk_mul, pk_sub, ng_add, neg_neg_n, nlt, nle, neq, ng_lt, gn_lt, gg_lt, ng_le, gn_le, gg_le, ng_eq, gn_eq, gg_eq, dv_i, if_pos, if_neg, ite_tt, ite_ff, if_b2, if_b2n, l_0, l_1, l_2, l_3, l_4, l_5, l_6, l_7, l_8, l_9, l_10, l_11, l_12, l_13, l_16, l_20, l_24, l_30, l_32, l_33, l_38, l_42, l_43, l_45, l_47, l_48, l_50, l_57, l_60, l_61, l_62, l_96, l_97, l_99, l_100, l_102, l_105, l_110, l_121, l_122, l_124, l_128, l_200, l_255, l_270, l_350, l_360, l_400, l_440, l_490, l_500, l_999, l_1000, l_9999, l_10000, l_99999, l_100000, l_1000000, l_1000000001, l_1000000002, l_1000000003, l_1000000005, l_1000000011, l_1000000012, l_1000000013, l_1000000014, t1, t2, and_31, shl_1, e1, x_bc]
    exact ih (n - 1) _ _ _ _ _ _ _ (by omega) ⟨k + 1, by omega, rfl, rfl, rfl, rfl, Or.inr ⟨k, m, by omega, rfl, rfl, hm, rfl, e2⟩⟩
  · have p2 := pop_le mb
    by_cases hlt : pop16 mb < pop16 m
    · simp (maxSteps := 1000000) (disch := omega) only [vv_e, mm_e, jn_e, bd_e, bd_i, ld_i, st_i, la_i, sl_i, nI_add, pk_mul, pk_sub, ng_add, neg_neg_n, nlt, nle, neq, ng_lt, gn_lt, gg_lt, ng_le, gn_le, gg_le, ng_eq, gn_eq, gg_eq, dv_i, if_pos, if_neg, ite_tt, ite_ff, if_b2, if_b2n, l_0, l_1, l_2, l_3, l_4, l_5, l_6, l_7, l_8, l_9, l_10, l_11, l_12, l_13, l_16, l_20, l_24, l_30, l_32, l_33, l_38, l_42, l_43, l_45, l_47, l_48, l_50, l_57, l_60, l_61, l_62, l_96, l_97, l_99, l_100, l_102, l_105, l_110, l_121, l_122, l_124, l_128, l_200, l_255, l_270, l_350, l_360, l_400, l_440, l_490, l_500, l_999, l_1000, l_9999, l_10000, l_99999, l_100000, l_1000000, l_1000000001, l_1000000002, l_1000000003, l_1000000005, l_1000000011, l_1000000012, l_1000000013, l_1000000014, t1, t2, and_31, shl_1, e1, e2, hfb, x_bc, y_ones]
      exact ih (n - 1) _ _ _ _ _ _ _ (by omega) ⟨k + 1, by omega, rfl, rfl, rfl, rfl, Or.inr ⟨k, m, by omega, rfl, rfl, hm, rfl, e2⟩⟩
    · simp (maxSteps := 1000000) (disch := omega) only [vv_e, mm_e, jn_e, bd_e, bd_i, ld_i, st_i, la_i, sl_i, nI_add, pk_mul, pk_sub, ng_add, neg_neg_n, nlt, nle, neq, ng_lt, gn_lt, gg_lt, ng_le, gn_le, gg_le, ng_eq, gn_eq, gg_eq, dv_i, if_pos, if_neg, ite_tt, ite_ff, if_b2, if_b2n, l_0, l_1, l_2, l_3, l_4, l_5, l_6, l_7, l_8, l_9, l_10, l_11, l_12, l_13, l_16, l_20, l_24, l_30, l_32, l_33, l_38, l_42, l_43, l_45, l_47, l_48, l_50, l_57, l_60, l_61, l_62, l_96, l_97, l_99, l_100, l_102, l_105, l_110, l_121, l_122, l_124, l_128, l_200, l_255, l_270, l_350, l_360, l_400, l_440, l_490, l_500, l_999, l_1000, l_9999, l_10000, l_99999, l_100000, l_1000000, l_1000000001, l_1000000002, l_1000000003, l_1000000005, l_1000000011, l_1000000012, l_1000000013, l_1000000014, t1, t2, and_31, shl_1, e1, e2, hfb, x_bc, y_ones]
      exact ih (n - 1) _ _ _ _ _ _ _ (by omega) ⟨k + 1, by omega, rfl, rfl, rfl, rfl, Or.inr ⟨b, mb, hb, rfl, rfl, hmb, rfl, hfb⟩⟩
theorem agree_eq {M N : Mem} {nS : Nat} (hO : RO nS (M 24 4) (M 28) (N 1)) (p q : Int32) {s : Nat} (hs : s < nS) : ∃ m, m < 256 ∧ f_X1_agreeing 24 p (nI s) q M = some (nI m, M) ∧ f_X10_leftBy 0 p (nI s) q N = some (nI m, N) := by
  obtain ⟨o1, o2, o3, o4⟩ := id hO
  obtain ⟨g1, g2⟩ := o4 s hs
  have key : R2 (fun r M' N' => (∃ m, m < 256 ∧ r = nI m) ∧ M' = M ∧ N' = N) (f_X1_agreeing 24 p (nI s) q M) (f_X10_leftBy 0 p (nI s) q N) := by
    unfold f_X1_agreeing f_X10_leftBy
    simp only [vv_e, mm_e, jn_e, bd_e, bd_i, e1_0_0, e1_0_1, e1_0_3, e1_0_4, e1_0_6, e1_0_7, e1_1_0, e1_1_1, e1_1_2, e1_1_3, e1_1_4, e1_1_5, e1_1_9, e1_2_1, e1_2_3, e1_2_4, e1_2_5, e1_2_6, e1_2_7, e1_9_1, e1_9_2, e1_9_3, e1_9_4, e1_9_5, e1_9_6, e1_16_0, e1_16_1, e1_19_0, e1_19_2, e1_19_3, e1_19_4, e1_24_1, e1_24_2, e1_24_3, e1_24_5, e1_61_0, e1_61_6, e2_0_0, e2_0_1, e2_0_2, e2_0_4, e2_0_5, e2_0_6, e2_0_7, e2_0_8, e2_0_9, e2_0_10, e2_0_11, e2_0_12, e2_0_24, e2_0_25, e2_0_28, e2_0_29, e2_0_30, e2_0_34, e2_0_35, e2_0_36, e2_0_38]
    refine lr22 (fun n v d M' w e N' => ∃ k s, k + n = 8 ∧ d = nI k ∧ e = nI k ∧ v = nI s ∧ w = nI s ∧ s < 256 ∧ M' = M ∧ N' = N) ?_ fuel fuel 8 _ _ M _ _ N (by decide) (by decide) ⟨0, 0, by omega, rfl, rfl, rfl, rfl, by omega, rfl, rfl⟩
    rintro n rc rd v d M' w e N' ⟨k, s', hk, rfl, rfl, rfl, rfl, hs', E1, E2⟩ ih
    rw [E1, E2]
    by_cases hkn : k = 8
    · subst hkn
      simp (maxSteps := 1000000) (disch := omega) only [ld_i, st_i, la_i, sl_i, nI_add, pk_mul, pk_sub, ng_add, neg_neg_n, nlt, nle, neq, ng_lt, gn_lt, gg_lt, ng_le, gn_le, gg_le, ng_eq, gn_eq, gg_eq, dv_i, if_pos, if_neg, ite_tt, ite_ff, if_b2, if_b2n, l_0, l_1, l_2, l_3, l_4, l_5, l_6, l_7, l_8, l_9, l_10, l_11, l_12, l_13, l_16, l_20, l_24, l_30, l_32, l_33, l_38, l_42, l_43, l_45, l_47, l_48, l_50, l_57, l_60, l_61, l_62, l_96, l_97, l_99, l_100, l_102, l_105, l_110, l_121, l_122, l_124, l_128, l_200, l_255, l_270, l_350, l_360, l_400, l_440, l_490, l_500, l_999, l_1000, l_9999, l_10000, l_99999, l_100000, l_1000000, l_1000000001, l_1000000002, l_1000000003, l_1000000005, l_1000000011, l_1000000012, l_1000000013, l_1000000014]
      exact R2.mk ⟨⟨s', hs', rfl⟩, rfl, rfl⟩
    have hpw := pow8 (show k < 8 by omega)
    simp (maxSteps := 1000000) (disch := omega) only [vv_e, mm_e, jn_e, bd_e, bd_i, ld_i, st_i, la_i, sl_i, nI_add, pk_mul, pk_sub, ng_add, neg_neg_n, nlt, nle, neq, ng_lt, gn_lt, gg_lt, ng_le, gn_le, gg_le, ng_eq, gn_eq, gg_eq, dv_i, if_pos, if_neg, ite_tt, ite_ff, if_b2, if_b2n, l_0, l_1, l_2, l_3, l_4, l_5, l_6, l_7, l_8, l_9, l_10, l_11, l_12, l_13, l_16, l_20, l_24, l_30, l_32, l_33, l_38, l_42, l_43, l_45, l_47, l_48, l_50, l_57, l_60, l_61, l_62, l_96, l_97, l_99, l_100, l_102, l_105, l_110, l_121, l_122, l_124, l_128, l_200, l_255, l_270, l_350, l_360, l_400, l_440, l_490, l_500, l_999, l_1000, l_9999, l_10000, l_99999, l_100000, l_1000000, l_1000000001, l_1000000002, l_1000000003, l_1000000005, l_1000000011, l_1000000012, l_1000000013, l_1000000014, g1, and_31]
    by_cases hc : p >>> nI k &&& nI 1 = nI 1
    · simp only [if_pos hc]
      by_cases hd : M 28 s >>> nI (2 * k) &&& nI 3 = q
      · simp (maxSteps := 1000000) (disch := omega) only [ld_i, st_i, la_i, sl_i, nI_add, pk_mul, pk_sub, ng_add, neg_neg_n, nlt, nle, neq, ng_lt, gn_lt, gg_lt, ng_le, gn_le, gg_le, ng_eq, gn_eq, gg_eq, dv_i, if_pos, if_neg, ite_tt, ite_ff, if_b2, if_b2n, l_0, l_1, l_2, l_3, l_4, l_5, l_6, l_7, l_8, l_9, l_10, l_11, l_12, l_13, l_16, l_20, l_24, l_30, l_32, l_33, l_38, l_42, l_43, l_45, l_47, l_48, l_50, l_57, l_60, l_61, l_62, l_96, l_97, l_99, l_100, l_102, l_105, l_110, l_121, l_122, l_124, l_128, l_200, l_255, l_270, l_350, l_360, l_400, l_440, l_490, l_500, l_999, l_1000, l_9999, l_10000, l_99999, l_100000, l_1000000, l_1000000001, l_1000000002, l_1000000003, l_1000000005, l_1000000011, l_1000000012, l_1000000013, l_1000000014, hd, shl_1, nI_or16, if_true]
        exact ih (n - 1) _ _ _ _ _ _ (by omega) ⟨k + 1, s' ||| 2 ^ k, by omega, rfl, rfl, rfl, rfl, or8 hs' hpw, rfl, rfl⟩
      · simp (maxSteps := 1000000) (disch := omega) only [ld_i, st_i, la_i, sl_i, nI_add, pk_mul, pk_sub, ng_add, neg_neg_n, nlt, nle, neq, ng_lt, gn_lt, gg_lt, ng_le, gn_le, gg_le, ng_eq, gn_eq, gg_eq, dv_i, if_pos, if_neg, ite_tt, ite_ff, if_b2, if_b2n, l_0, l_1, l_2, l_3, l_4, l_5, l_6, l_7, l_8, l_9, l_10, l_11, l_12, l_13, l_16, l_20, l_24, l_30, l_32, l_33, l_38, l_42, l_43, l_45, l_47, l_48, l_50, l_57, l_60, l_61, l_62, l_96, l_97, l_99, l_100, l_102, l_105, l_110, l_121, l_122, l_124, l_128, l_200, l_255, l_270, l_350, l_360, l_400, l_440, l_490, l_500, l_999, l_1000, l_9999, l_10000, l_99999, l_100000, l_1000000, l_1000000001, l_1000000002, l_1000000003, l_1000000005, l_1000000011, l_1000000012, l_1000000013, l_1000000014, hd, or_0, if_false]
        exact ih (n - 1) _ _ _ _ _ _ (by omega) ⟨k + 1, s', by omega, rfl, rfl, rfl, rfl, hs', rfl, rfl⟩
    · simp only [if_neg hc]
      simp (maxSteps := 1000000) (disch := omega) only [ld_i, st_i, la_i, sl_i, nI_add, pk_mul, pk_sub, ng_add, neg_neg_n, nlt, nle, neq, ng_lt, gn_lt, gg_lt, ng_le, gn_le, gg_le, ng_eq, gn_eq, gg_eq, dv_i, if_pos, if_neg, ite_tt, ite_ff, if_b2, if_b2n, l_0, l_1, l_2, l_3, l_4, l_5, l_6, l_7, l_8, l_9, l_10, l_11, l_12, l_13, l_16, l_20, l_24, l_30, l_32, l_33, l_38, l_42, l_43, l_45, l_47, l_48, l_50, l_57, l_60, l_61, l_62, l_96, l_97, l_99, l_100, l_102, l_105, l_110, l_121, l_122, l_124, l_128, l_200, l_255, l_270, l_350, l_360, l_400, l_440, l_490, l_500, l_999, l_1000, l_9999, l_10000, l_99999, l_100000, l_1000000, l_1000000001, l_1000000002, l_1000000003, l_1000000005, l_1000000011, l_1000000012, l_1000000013, l_1000000014, or_0]
      exact ih (n - 1) _ _ _ _ _ _ (by omega) ⟨k + 1, s', by omega, rfl, rfl, rfl, rfl, hs', rfl, rfl⟩
  obtain ⟨r, M', N', e1, e2, ⟨m, hm, rfl⟩, rfl, rfl⟩ := key
  exact ⟨m, hm, e1, e2⟩
theorem op_heard : ∀ (p q r : Int32) (M N : Mem), Inv M N → Same (f_X9_heard 0 p q r M) (f_X10_heard 0 p q r N) := by
  intro p q r M N h
  obtain ⟨nT, nF, nX, nC, nE, nL, nS, hS, hT, hF, hX, hL, hC, hR, hD, hN, hO, hZ⟩ := h.st
  obtain ⟨o1, o2, o3, o4⟩ := id hO
  unfold f_X9_heard f_X10_heard
  rw [s_isInL p 0 255 0 255 N rfl rfl, show f_X9_lowBits 8 M = some (255, M) from rfl]
  simp only [vv_e, mm_e, jn_e, bd_e, bd_i, e1_0_0, e1_0_1, e1_0_3, e1_0_4, e1_0_6, e1_0_7, e1_1_0, e1_1_1, e1_1_2, e1_1_3, e1_1_4, e1_1_5, e1_1_9, e1_2_1, e1_2_3, e1_2_4, e1_2_5, e1_2_6, e1_2_7, e1_9_1, e1_9_2, e1_9_3, e1_9_4, e1_9_5, e1_9_6, e1_16_0, e1_16_1, e1_19_0, e1_19_2, e1_19_3, e1_19_4, e1_24_1, e1_24_2, e1_24_3, e1_24_5, e1_61_0, e1_61_6, e2_0_0, e2_0_1, e2_0_2, e2_0_4, e2_0_5, e2_0_6, e2_0_7, e2_0_8, e2_0_9, e2_0_10, e2_0_11, e2_0_12, e2_0_24, e2_0_25, e2_0_28, e2_0_29, e2_0_30, e2_0_34, e2_0_35, e2_0_36, e2_0_38, ld_6, o1, o2, s_within, if_b2, s_isInL q 0 (Int32.toInt64 (nI nS - 1)) 0 (nI nS - 1) N rfl rfl, s_isInL r 0 3 0 3 N rfl rfl]
  by_cases hp : 0 ≤ p ∧ p ≤ 255
  case neg =>
    rw [if_neg hp, if_neg hp]
    exact Same.mk h
  rw [if_pos hp, if_pos hp]
  by_cases hq : 0 ≤ q ∧ q ≤ nI nS - 1
  case neg =>
    rw [if_neg hq, if_neg hq]
    exact Same.mk h
  rw [if_pos hq, if_pos hq]
  obtain ⟨s, hs, rfl⟩ := (rg_le (by omega)).mp hq
  obtain ⟨m, hm, e1, e2⟩ := agree_eq hO p r hs
  simp only [e1, e2, vv_e, mm_e, jn_e, bd_e, bd_i]
  by_cases hr : 0 ≤ r ∧ r ≤ 3
  · rw [if_pos hr, if_pos hr]
    exact Same.mk h
  · rw [if_neg hr, if_neg hr]
    exact Same.mk h
def mxw (f : Nat → Nat) : Nat → Nat
  | 0 => 0
  | k + 1 => if mxw f k < f k then f k else mxw f k
theorem mxw_le {f : Nat → Nat} {c : Nat} (h : ∀ k, f k ≤ c) : ∀ k, mxw f k ≤ c
  | 0 => Nat.zero_le _
  | k + 1 => by
    rw [mxw]
    split
    · exact h k
    · exact mxw_le h k
theorem op_next : ∀ (p : Int32) (M N : Mem), Inv M N → Same (f_X9_next 0 p M) (f_X10_next 0 p N) := by
  intro p M N h
  obtain ⟨nT, nF, nX, nC, nE, nL, nS, hS, hT, hF, hX, hL, hC, hR, hD, hN, hO, hZ⟩ := h.st
  obtain ⟨o1, o2, o3, o4⟩ := id hO
  unfold f_X9_next f_X10_next f_X1_bestSource
  rw [s_isInL p 1 255 1 255 N rfl rfl, show f_X9_lowBits 8 M = some (255, M) from rfl]
  simp only [vv_e, mm_e, jn_e, bd_e, bd_i, e1_0_0, e1_0_1, e1_0_3, e1_0_4, e1_0_6, e1_0_7, e1_1_0, e1_1_1, e1_1_2, e1_1_3, e1_1_4, e1_1_5, e1_1_9, e1_2_1, e1_2_3, e1_2_4, e1_2_5, e1_2_6, e1_2_7, e1_9_1, e1_9_2, e1_9_3, e1_9_4, e1_9_5, e1_9_6, e1_16_0, e1_16_1, e1_19_0, e1_19_2, e1_19_3, e1_19_4, e1_24_1, e1_24_2, e1_24_3, e1_24_5, e1_61_0, e1_61_6, e2_0_0, e2_0_1, e2_0_2, e2_0_4, e2_0_5, e2_0_6, e2_0_7, e2_0_8, e2_0_9, e2_0_10, e2_0_11, e2_0_12, e2_0_24, e2_0_25, e2_0_28, e2_0_29, e2_0_30, e2_0_34, e2_0_35, e2_0_36, e2_0_38, s_within, if_b2, bd_v]
  by_cases hp : 1 ≤ p ∧ p ≤ 255
  case neg =>
    rw [if_neg hp, if_neg hp]
    exact Same.mk h
  rw [if_pos hp, if_pos hp]
  apply R2.same
  have hm : ∀ s, s < nS → ∃ g : Nat → Nat, ∀ a, g a < 256 ∧ f_X1_agreeing 24 p (nI s) (nI a) M = some (nI (g a), M) ∧ f_X10_leftBy 0 p (nI s) (nI a) N = some (nI (g a), N) := fun s hs => Classical.axiomOfChoice (fun a => agree_eq hO p (nI a) hs)
  refine lr33 (fun n v1 v2 v3 M' w1 w2 w3 N' => ∃ k, k + n = nS ∧ v3 = nI k ∧ w3 = nI k ∧ M' = M ∧ N' = N ∧ ((v1 = -nI 1000000005 ∧ v2 = nI 9 ∧ w1 = -nI 1) ∨ ∃ b c, b < 8 ∧ c < 9 ∧ v1 = nI b ∧ w1 = nI b ∧ v2 = nI c ∧ w2 = nI c)) ?_ fuel fuel nS _ _ _ M _ _ _ N (by show nS < 5000; omega) (by show nS < 5000; omega) ⟨0, by omega, rfl, rfl, rfl, rfl, Or.inl ⟨rfl, rfl, rfl⟩⟩
  rintro n rc rd v1 v2 v3 M' w1 w2 w3 N' ⟨k, hk, rfl, rfl, E1, E2, hv⟩ ih
  rw [E1, E2]
  by_cases hkn : k = nS
  · subst hkn
    rcases hv with ⟨rfl, rfl, rfl⟩ | ⟨b, c, hb, hc, rfl, rfl, rfl, rfl⟩
    · simp (maxSteps := 1000000) (disch := omega) only [vv_e, mm_e, jn_e, bd_e, bd_i, ld_i, st_i, la_i, sl_i, nI_add, pk_mul, pk_sub, ng_add, neg_neg_n, nlt, nle, neq, ng_lt, gn_lt, gg_lt, ng_le, gn_le, gg_le, ng_eq, gn_eq, gg_eq, dv_i, if_pos, if_neg, ite_tt, ite_ff, if_b2, if_b2n, l_0, l_1, l_2, l_3, l_4, l_5, l_6, l_7, l_8, l_9, l_10, l_11, l_12, l_13, l_16, l_20, l_24, l_30, l_32, l_33, l_38, l_42, l_43, l_45, l_47, l_48, l_50, l_57, l_60, l_61, l_62, l_96, l_97, l_99, l_100, l_102, l_105, l_110, l_121, l_122, l_124, l_128, l_200, l_255, l_270, l_350, l_360, l_400, l_440, l_490, l_500, l_999, l_1000, l_9999, l_10000, l_99999, l_100000, l_1000000, l_1000000001, l_1000000002, l_1000000003, l_1000000005, l_1000000011, l_1000000012, l_1000000013, l_1000000014, o1, o2, orN_ng]
      exact R2.mk h
    · simp (maxSteps := 1000000) (disch := omega) only [vv_e, mm_e, jn_e, bd_e, bd_i, ld_i, st_i, la_i, sl_i, nI_add, pk_mul, pk_sub, ng_add, neg_neg_n, nlt, nle, neq, ng_lt, gn_lt, gg_lt, ng_le, gn_le, gg_le, ng_eq, gn_eq, gg_eq, dv_i, if_pos, if_neg, ite_tt, ite_ff, if_b2, if_b2n, l_0, l_1, l_2, l_3, l_4, l_5, l_6, l_7, l_8, l_9, l_10, l_11, l_12, l_13, l_16, l_20, l_24, l_30, l_32, l_33, l_38, l_42, l_43, l_45, l_47, l_48, l_50, l_57, l_60, l_61, l_62, l_96, l_97, l_99, l_100, l_102, l_105, l_110, l_121, l_122, l_124, l_128, l_200, l_255, l_270, l_350, l_360, l_400, l_440, l_490, l_500, l_999, l_1000, l_9999, l_10000, l_99999, l_100000, l_1000000, l_1000000001, l_1000000002, l_1000000003, l_1000000005, l_1000000011, l_1000000012, l_1000000013, l_1000000014, o1, o2, orN_nI]
      exact R2.mk h
  obtain ⟨g, hg⟩ := hm k (by omega)
  have hle : ∀ a, mxw (fun a => pop16 (g a)) a ≤ 8 := mxw_le (fun a => pop_le8 _ (hg a).1)
  have hml : f_X1_mostLeft 24 p (nI k) M = some (nI (mxw (fun a => pop16 (g a)) 4), M) := by
    apply Res.eq
    unfold f_X1_mostLeft
    refine lo2 (fun m x y M' => ∃ a, a + m = 4 ∧ x = nI (mxw (fun a => pop16 (g a)) a) ∧ y = nI a ∧ M' = M) ?_ fuel 4 _ _ M (by decide) ⟨0, by omega, rfl, rfl, rfl⟩
    rintro m rc _ _ M' ⟨a, ha, rfl, rfl, hM⟩ ih
    rw [hM]
    by_cases ha4 : a = 4
    · subst ha4
      exact Res.mk ⟨rfl, rfl⟩
    obtain ⟨c1, c2, c3⟩ := hg a
    have l1 := hle a
    have l2 := pop_le8 _ c1
    have hx : (if mxw (fun a => pop16 (g a)) a < pop16 (g a) then nI (pop16 (g a)) else nI (mxw (fun a => pop16 (g a)) a)) = nI (mxw (fun a => pop16 (g a)) (a + 1)) := by
      rw [mxw]
      split <;> rfl
    simp (maxSteps := 1000000) (disch := omega) only [vv_e, mm_e, jn_e, bd_e, bd_i, ld_i, st_i, la_i, sl_i, nI_add, pk_mul, pk_sub, ng_add, neg_neg_n, nlt, nle, neq, ng_lt, gn_lt, gg_lt, ng_le, gn_le, gg_le, ng_eq, gn_eq, gg_eq, dv_i, if_pos, if_neg, ite_tt, ite_ff, if_b2, if_b2n, l_0, l_1, l_2, l_3, l_4, l_5, l_6, l_7, l_8, l_9, l_10, l_11, l_12, l_13, l_16, l_20, l_24, l_30, l_32, l_33, l_38, l_42, l_43, l_45, l_47, l_48, l_50, l_57, l_60, l_61, l_62, l_96, l_97, l_99, l_100, l_102, l_105, l_110, l_121, l_122, l_124, l_128, l_200, l_255, l_270, l_350, l_360, l_400, l_440, l_490, l_500, l_999, l_1000, l_9999, l_10000, l_99999, l_100000, l_1000000, l_1000000001, l_1000000002, l_1000000003, l_1000000005, l_1000000011, l_1000000012, l_1000000013, l_1000000014, c2, x_bc, hx]
    exact ih (m - 1) _ _ _ (by omega) ⟨a + 1, by omega, rfl, rfl, rfl⟩
  have l4 := hle 4
  simp (maxSteps := 1000000) (disch := omega) only [vv_e, mm_e, jn_e, bd_e, bd_i, ld_i, st_i, la_i, sl_i, nI_add, pk_mul, pk_sub, ng_add, neg_neg_n, nlt, nle, neq, ng_lt, gn_lt, gg_lt, ng_le, gn_le, gg_le, ng_eq, gn_eq, gg_eq, dv_i, if_pos, if_neg, ite_tt, ite_ff, if_b2, if_b2n, l_0, l_1, l_2, l_3, l_4, l_5, l_6, l_7, l_8, l_9, l_10, l_11, l_12, l_13, l_16, l_20, l_24, l_30, l_32, l_33, l_38, l_42, l_43, l_45, l_47, l_48, l_50, l_57, l_60, l_61, l_62, l_96, l_97, l_99, l_100, l_102, l_105, l_110, l_121, l_122, l_124, l_128, l_200, l_255, l_270, l_350, l_360, l_400, l_440, l_490, l_500, l_999, l_1000, l_9999, l_10000, l_99999, l_100000, l_1000000, l_1000000001, l_1000000002, l_1000000003, l_1000000005, l_1000000011, l_1000000012, l_1000000013, l_1000000014, o1, o2, hml]
  refine ro2 (fun m x y N' => ∃ a, a + m = 4 ∧ x = nI (mxw (fun a => pop16 (g a)) a) ∧ y = nI a ∧ N' = N) ?_ fuel 4 _ _ N (by decide) ⟨0, by omega, rfl, rfl, rfl⟩
  rintro m rd2 _ _ N2 ⟨a, ha, rfl, rfl, hM⟩ ih2
  rw [hM]
  by_cases ha4 : a = 4
  · subst ha4
    rcases hv with ⟨rfl, rfl, rfl⟩ | ⟨b, c, hb, hc, rfl, rfl, rfl, rfl⟩
    · simp (maxSteps := 1000000) (disch := omega) only [vv_e, mm_e, jn_e, bd_e, bd_i, ld_i, st_i, la_i, sl_i, nI_add, pk_mul, pk_sub, ng_add, neg_neg_n, nlt, nle, neq, ng_lt, gn_lt, gg_lt, ng_le, gn_le, gg_le, ng_eq, gn_eq, gg_eq, dv_i, if_pos, if_neg, ite_tt, ite_ff, if_b2, if_b2n, l_0, l_1, l_2, l_3, l_4, l_5, l_6, l_7, l_8, l_9, l_10, l_11, l_12, l_13, l_16, l_20, l_24, l_30, l_32, l_33, l_38, l_42, l_43, l_45, l_47, l_48, l_50, l_57, l_60, l_61, l_62, l_96, l_97, l_99, l_100, l_102, l_105, l_110, l_121, l_122, l_124, l_128, l_200, l_255, l_270, l_350, l_360, l_400, l_440, l_490, l_500, l_999, l_1000, l_9999, l_10000, l_99999, l_100000, l_1000000, l_1000000001, l_1000000002, l_1000000003, l_1000000005, l_1000000011, l_1000000012, l_1000000013, l_1000000014]
      exact ih (n - 1) _ _ _ _ _ _ _ _ (by omega) ⟨k + 1, by omega, rfl, rfl, rfl, rfl, Or.inr ⟨k, _, by omega, by omega, rfl, rfl, rfl, rfl⟩⟩
    · by_cases hlt : mxw (fun a => pop16 (g a)) 4 < c
      · simp (maxSteps := 1000000) (disch := omega) only [vv_e, mm_e, jn_e, bd_e, bd_i, ld_i, st_i, la_i, sl_i, nI_add, pk_mul, pk_sub, ng_add, neg_neg_n, nlt, nle, neq, ng_lt, gn_lt, gg_lt, ng_le, gn_le, gg_le, ng_eq, gn_eq, gg_eq, dv_i, if_pos, if_neg, ite_tt, ite_ff, if_b2, if_b2n, l_0, l_1, l_2, l_3, l_4, l_5, l_6, l_7, l_8, l_9, l_10, l_11, l_12, l_13, l_16, l_20, l_24, l_30, l_32, l_33, l_38, l_42, l_43, l_45, l_47, l_48, l_50, l_57, l_60, l_61, l_62, l_96, l_97, l_99, l_100, l_102, l_105, l_110, l_121, l_122, l_124, l_128, l_200, l_255, l_270, l_350, l_360, l_400, l_440, l_490, l_500, l_999, l_1000, l_9999, l_10000, l_99999, l_100000, l_1000000, l_1000000001, l_1000000002, l_1000000003, l_1000000005, l_1000000011, l_1000000012, l_1000000013, l_1000000014]
        exact ih (n - 1) _ _ _ _ _ _ _ _ (by omega) ⟨k + 1, by omega, rfl, rfl, rfl, rfl, Or.inr ⟨k, _, by omega, by omega, rfl, rfl, rfl, rfl⟩⟩
      · simp (maxSteps := 1000000) (disch := omega) only [vv_e, mm_e, jn_e, bd_e, bd_i, ld_i, st_i, la_i, sl_i, nI_add, pk_mul, pk_sub, ng_add, neg_neg_n, nlt, nle, neq, ng_lt, gn_lt, gg_lt, ng_le, gn_le, gg_le, ng_eq, gn_eq, gg_eq, dv_i, if_pos, if_neg, ite_tt, ite_ff, if_b2, if_b2n, l_0, l_1, l_2, l_3, l_4, l_5, l_6, l_7, l_8, l_9, l_10, l_11, l_12, l_13, l_16, l_20, l_24, l_30, l_32, l_33, l_38, l_42, l_43, l_45, l_47, l_48, l_50, l_57, l_60, l_61, l_62, l_96, l_97, l_99, l_100, l_102, l_105, l_110, l_121, l_122, l_124, l_128, l_200, l_255, l_270, l_350, l_360, l_400, l_440, l_490, l_500, l_999, l_1000, l_9999, l_10000, l_99999, l_100000, l_1000000, l_1000000001, l_1000000002, l_1000000003, l_1000000005, l_1000000011, l_1000000012, l_1000000013, l_1000000014]
        exact ih (n - 1) _ _ _ _ _ _ _ _ (by omega) ⟨k + 1, by omega, rfl, rfl, rfl, rfl, Or.inr ⟨b, c, hb, hc, rfl, rfl, rfl, rfl⟩⟩
  obtain ⟨c1, c2, c3⟩ := hg a
  have l1 := hle a
  have l2 := pop_le8 _ c1
  by_cases hlt : mxw (fun a => pop16 (g a)) a < pop16 (g a)
  · simp (maxSteps := 1000000) (disch := omega) only [vv_e, mm_e, jn_e, bd_e, bd_i, ld_i, st_i, la_i, sl_i, nI_add, pk_mul, pk_sub, ng_add, neg_neg_n, nlt, nle, neq, ng_lt, gn_lt, gg_lt, ng_le, gn_le, gg_le, ng_eq, gn_eq, gg_eq, dv_i, if_pos, if_neg, ite_tt, ite_ff, if_b2, if_b2n, l_0, l_1, l_2, l_3, l_4, l_5, l_6, l_7, l_8, l_9, l_10, l_11, l_12, l_13, l_16, l_20, l_24, l_30, l_32, l_33, l_38, l_42, l_43, l_45, l_47, l_48, l_50, l_57, l_60, l_61, l_62, l_96, l_97, l_99, l_100, l_102, l_105, l_110, l_121, l_122, l_124, l_128, l_200, l_255, l_270, l_350, l_360, l_400, l_440, l_490, l_500, l_999, l_1000, l_9999, l_10000, l_99999, l_100000, l_1000000, l_1000000001, l_1000000002, l_1000000003, l_1000000005, l_1000000011, l_1000000012, l_1000000013, l_1000000014, c3, y_ones]
    exact ih2 (m - 1) _ _ _ (by omega) ⟨a + 1, by omega, by rw [mxw, if_pos hlt], rfl, rfl⟩
  · simp (maxSteps := 1000000) (disch := omega) only [vv_e, mm_e, jn_e, bd_e, bd_i, ld_i, st_i, la_i, sl_i, nI_add, pk_mul, pk_sub, ng_add, neg_neg_n, nlt, nle, neq, ng_lt, gn_lt, gg_lt, ng_le, gn_le, gg_le, ng_eq, gn_eq, gg_eq, dv_i, if_pos, if_neg, ite_tt, ite_ff, if_b2, if_b2n, l_0, l_1, l_2, l_3, l_4, l_5, l_6, l_7, l_8, l_9, l_10, l_11, l_12, l_13, l_16, l_20, l_24, l_30, l_32, l_33, l_38, l_42, l_43, l_45, l_47, l_48, l_50, l_57, l_60, l_61, l_62, l_96, l_97, l_99, l_100, l_102, l_105, l_110, l_121, l_122, l_124, l_128, l_200, l_255, l_270, l_350, l_360, l_400, l_440, l_490, l_500, l_999, l_1000, l_9999, l_10000, l_99999, l_100000, l_1000000, l_1000000001, l_1000000002, l_1000000003, l_1000000005, l_1000000011, l_1000000012, l_1000000013, l_1000000014, c3, y_ones]
    exact ih2 (m - 1) _ _ _ (by omega) ⟨a + 1, by omega, by rw [mxw, if_neg hlt], rfl, rfl⟩
