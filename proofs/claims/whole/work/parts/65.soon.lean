def mn (o : Option Nat) (y : Nat) : Option Nat := match o with
  | none => some y
  | some b => if y < b then some y else some b
def bst (o : Option Nat) (Y : Nat → Nat) (w : Option Nat) : Option Nat := match w with
  | none => o
  | some j => mn o (Y j)
theorem mn_le {o : Option Nat} {y b : Nat} (h : mn o y = some b) : b ≤ y := by
  unfold mn at h
  cases o with
  | none => cases h; exact Nat.le_refl _
  | some c =>
    dsimp only at h
    by_cases q : y < c
    · rw [if_pos q] at h; cases h; exact Nat.le_refl _
    · rw [if_neg q] at h; cases h; omega
theorem mn_some (o : Option Nat) (y : Nat) : ∃ b, mn o y = some b := by
  unfold mn
  cases o with
  | none => exact ⟨y, rfl⟩
  | some c =>
    dsimp only
    split
    · exact ⟨_, rfl⟩
    · exact ⟨_, rfl⟩
theorem op_soon : ∀ (p q : Int32) (M N : Mem), Inv M N → Same (f_X9_soon 0 p q M) (f_X10_soon 0 p q N) := by
  intro p q M N h
  obtain ⟨nT, nF, nX, nC, nE, nL, nS, hS, hT, hF, hX, hL, hC, hR, hD, hN, hO, hZ⟩ := h.st
  obtain ⟨t1, t2, t3, t4, t5⟩ := id hT
  have f1 : M 2 2 = nI nF := hF.1
  have f3 : nF ≤ 40 := hF.2.2.1
  unfold f_X9_soon f_X10_soon
  simp only [vv_e, mm_e, jn_e, bd_e, bd_i, e1_0_0, e1_0_1, e1_0_3, e1_0_4, e1_0_6, e1_0_7, e1_1_0, e1_1_1, e1_1_2, e1_1_3, e1_1_4, e1_1_5, e1_1_9, e1_2_1, e1_2_3, e1_2_4, e1_2_5, e1_2_6, e1_2_7, e1_9_1, e1_9_2, e1_9_3, e1_9_4, e1_9_5, e1_9_6, e1_16_0, e1_16_1, e1_19_0, e1_19_2, e1_19_3, e1_19_4, e1_24_1, e1_24_2, e1_24_3, e1_24_5, e1_61_0, e1_61_6, e2_0_0, e2_0_1, e2_0_2, e2_0_4, e2_0_5, e2_0_6, e2_0_7, e2_0_8, e2_0_9, e2_0_10, e2_0_11, e2_0_12, e2_0_24, e2_0_25, e2_0_28, e2_0_29, e2_0_30, e2_0_34, e2_0_35, e2_0_36, e2_0_38, s_within, s_places, y_places, if_b2, s_isInL p 2 12 2 12 N rfl rfl]
  by_cases hp : 2 ≤ p ∧ p ≤ 12
  case neg =>
    rw [if_neg hp, if_neg hp]
    exact Same.mk h
  rw [if_pos hp, if_pos hp]
  by_cases hq : 1 ≤ q ∧ q ≤ 4
  case neg =>
    rw [if_neg hq, if_neg hq]
    exact Same.mk h
  rw [if_pos hq, if_pos hq]
  obtain ⟨kk, hkk, rfl⟩ := rgN (p := p) (c := 12) (by decide) ⟨Int32.le_trans (by decide) hp.1, hp.2⟩
  have hkk1 : 2 ≤ kk := (nI_leI (a := 2) (by decide) (by omega)).mp hp.1
  obtain ⟨pl, hpl, rfl⟩ := rgN (p := q) (c := 4) (by decide) ⟨Int32.le_trans (by decide) hq.1, hq.2⟩
  have hpl1 : 1 ≤ pl := (nI_leI (a := 1) (by decide) (by omega)).mp hq.1
  have hY : ∃ Y : Nat → Nat, ∀ t, t < nT → Y t < 60 ∧ M 3 t = nI (Y t) ∧ N 1 (10 + t) = nI (Y t) := by
    have hy : ∀ t, ∃ y, t < nT → y < 60 ∧ M 3 t = nI y ∧ N 1 (10 + t) = nI y := fun t => by
      by_cases ht : t < nT
      · obtain ⟨e, y, hy, ey⟩ := t4 t ht
        exact ⟨y, fun _ => ⟨hy, ey, by rw [e]; exact ey⟩⟩
      · exact ⟨0, fun w => absurd w ht⟩
    exact Classical.axiomOfChoice hy
  obtain ⟨Y, hY⟩ := hY
  have hYm : ∀ b a, a ≤ b → b < nT → Y a ≤ Y b := by
    intro b
    induction b with
    | zero => intro a ha hb; rw [show a = 0 by omega]; exact Nat.le_refl _
    | succ b ih =>
      intro a ha hb
      by_cases e : a = b + 1
      · rw [e]; exact Nat.le_refl _
      · have h1 := ih a (by omega) (by omega)
        have h2 := t5 b hb
        obtain ⟨y1, y2, -⟩ := hY b (by omega)
        obtain ⟨y3, y4, -⟩ := hY (b + 1) hb
        rw [y2, y4, nle (by omega) (by omega)] at h2
        omega
  apply R2.same
  refine lr22 (fun n v d M' w e N' => ∃ l o, l + n = 6 ∧ d = nI l ∧ e = nI l ∧ v = orN o ∧ w = orM o ∧ (∀ b, o = some b → b < 60) ∧ Ec M M' ∧ N' = N) ?_ fuel fuel 6 _ _ M _ _ N (by decide) (by decide) ⟨0, none, by omega, rfl, rfl, rfl, rfl, (fun b hb => absurd hb (fun w => by cases w)), Ec.rfl', rfl⟩
  rintro n rc rd v d M' w e N' ⟨l, o, hl, rfl, rfl, rfl, rfl, ho, E1, E2⟩ ih
  rw [E2]
  have h' : Inv M' N := h.ee E1 Em.rfl'
  by_cases hl6 : l = 6
  · subst hl6
    rw [if_neg (by decide), if_neg (by decide)]
    cases o with
    | none =>
      rw [orM_n', orN_ng 1 (by decide) (by decide)]
      exact R2.mk h'
    | some b =>
      have := ho b rfl
      rw [orM_s, orN_nI b (by omega)]
      exact R2.mk h'
  have hl6' : nI l < 6 := nI_lt (b := 6) (by omega) (by decide)
  rw [if_pos hl6', if_pos hl6']
  have hS' : RS nT nF nX nC nE nL nS M' 1 (N 1) := hS.ec (Or.inl rfl) E1
  obtain ⟨k, F, V, T, k1, k2, k3, k4, k5⟩ := line_facts hS' (show l < 6 by omega)
  obtain ⟨r1, M2, e1, rfl, m1, m2⟩ := x_layLine hS' (show l < 6 by omega) k1 k2 (F := F) (V := V) (fun i hi => ⟨(k4 i hi).1, (k4 i hi).2.1, (k4 i hi).2.2.2.1, (k4 i hi).2.2.2.2.2.1⟩)
  have E3 : Ec M M2 := E1.trans (fun a a1 a2 a3 a4 a5 a6 => m2 a a3)
  have hv : ∀ j, j < k → V j < 10000 ∧ M2 30 j = nI (V j) := fun j hj => ⟨(k4 j hj).2.1, m1 j hj⟩
  have xr := x_reach 30 k pl kk V M2 rfl k1 hpl1 hpl (by omega) hv
  have g : ∀ a, a ≠ 15 → a ≠ 23 → a ≠ 30 → a ≠ 45 → a ≠ 53 → a ≠ 60 → M2 a = M a := E3
  have g2 : M2 2 2 = nI nF := by rw [g 2 (by decide) (by decide) (by decide) (by decide) (by decide) (by decide)]; exact f1
  have hTm : ∀ b a, a ≤ b → b < k → T a ≤ T b := by
    intro b
    induction b with
    | zero => intro a ha hb; rw [show a = 0 by omega]; exact Nat.le_refl _
    | succ b ih =>
      intro a ha hb
      by_cases e : a = b + 1
      · rw [e]; exact Nat.le_refl _
      · have h1 := ih a (by omega) (by omega)
        have h2 := k5 b hb
        omega
  have hYT : ∀ b a, a ≤ b → b < k → Y (T a) ≤ Y (T b) := fun b a hab hb => hYm _ _ (hTm b a hab hb) (k4 b hb).2.2.1
  -- what the class comes to
  have hcls : ∀ z, (∀ M3, Ec M M3 → R2 (fun _ M N => Inv M N) (rc (orN (bst o (fun j => Y (T j)) (firstT (rl (fun j => V j / cutN pl)) kk k))) (nI (l + 1)) M3) z) → R2 (fun _ M N => Inv M N) (bd (f_X6_layLine 1 (nI l) M') fun x7 M => bd (f_X9_reach 30 x7 (nI pl) (nI kk) M) fun x12 M => bd (f_X3_at 16 (nI l) x12 M) fun x13 M => bd (f_X0_has 2 x13 M) fun x16 M => if x16 = 0 then rc (orN o) (nI l + 1) M else bd (f_X0_yearOf 2 x13 M) fun x19 M => if orN o = -1000000005 then rc x19 (nI l + 1) M else if x19 < orN o then rc x19 (nI l + 1) M else rc (orN o) (nI l + 1) M) z := by
    intro z hz
    simp only [e1, xr, bd_e]
    cases hf : firstT (rl (fun j => V j / cutN pl)) kk k with
    | none =>
      rw [hf] at hz
      have hk0 : f_X0_has 2 (-nI 1000000005) M2 = some (nI 0, M2) := has_f g2 (by
        rintro ⟨j, hj, ej⟩
        rw [gn_eq (by omega) (by omega)] at ej
        omega) (by omega)
      rw [orM_n', x_at_n, bd_e, hk0, bd_e, if_pos (show nI 0 = 0 from rfl), nI_1]
      exact hz M2 E3
    | some j =>
      rw [hf] at hz
      obtain ⟨j1, j2, j3⟩ := firstT_some k hf
      obtain ⟨c1, c2, c3, c4, c5, c6, c7, c8, c9⟩ := k4 j j1
      have xa := x_at' l k j M2 (by omega) (by rw [m2 17 (by decide)]; exact k2) k1 j1
      rw [m2 18 (by decide), c4] at xa
      obtain ⟨y1, y2, y3⟩ := hY (T j) c3
      have g4 : M2 4 (F j) = nI (T j) := by rw [m2 4 (by decide)]; exact c8
      have g3 : M2 3 (T j) = nI (Y (T j)) := by rw [g 3 (by decide) (by decide) (by decide) (by decide) (by decide) (by decide)]; exact y2
      have xy : f_X0_yearOf 2 (nI (F j)) M2 = some (nI (Y (T j)), M2) := by
        unfold f_X0_yearOf
        simp (maxSteps := 1000000) (disch := omega) only [vv_e, mm_e, jn_e, bd_e, bd_i, e1_0_0, e1_0_1, e1_0_3, e1_0_4, e1_0_6, e1_0_7, e1_1_0, e1_1_1, e1_1_2, e1_1_3, e1_1_4, e1_1_5, e1_1_9, e1_2_1, e1_2_3, e1_2_4, e1_2_5, e1_2_6, e1_2_7, e1_9_1, e1_9_2, e1_9_3, e1_9_4, e1_9_5, e1_9_6, e1_16_0, e1_16_1, e1_19_0, e1_19_2, e1_19_3, e1_19_4, e1_24_1, e1_24_2, e1_24_3, e1_24_5, e1_61_0, e1_61_6, ld_i, st_i, la_i, sl_i, nI_add, pk_mul, pk_sub, ng_add, neg_neg_n, nlt, nle, neq, ng_lt, gn_lt, gg_lt, ng_le, gn_le, gg_le, ng_eq, gn_eq, gg_eq, dv_i, if_pos, if_neg, ite_tt, ite_ff, if_b2, if_b2n, l_0, l_1, l_2, l_3, l_4, l_5, l_6, l_7, l_8, l_9, l_10, l_11, l_12, l_13, l_16, l_20, l_24, l_30, l_32, l_33, l_38, l_42, l_43, l_45, l_47, l_48, l_50, l_57, l_60, l_61, l_62, l_96, l_97, l_99, l_100, l_102, l_105, l_110, l_121, l_122, l_124, l_128, l_200, l_255, l_270, l_350, l_360, l_400, l_440, l_490, l_500, l_999, l_1000, l_9999, l_10000, l_99999, l_100000, l_1000000, l_1000000001, l_1000000002, l_1000000003, l_1000000005, l_1000000011, l_1000000012, l_1000000013, l_1000000014, g4, g3]
      rw [orM_s, xa, bd_e, has_t g2 c1 (by omega), bd_e, if_neg (show ¬ nI 1 = 0 by decide), xy, bd_e, nI_1]
      have hz' := hz M2 E3
      unfold bst mn at hz'
      cases o with
      | none =>
        rw [if_pos orN_n]
        exact hz'
      | some b =>
        have hb := ho b rfl
        rw [orN_s, if_neg (fun w => by
          rw [show (-1000000005 : Int32) = -nI 1000000005 from rfl, ng_eq (by omega) (by omega)] at w
          omega)]
        dsimp only at hz'
        by_cases hlt : Y (T j) < b
        · rw [if_pos hlt] at hz'
          rw [if_pos (nI_lt hlt (by omega))]
          exact hz'
        · rw [if_neg hlt] at hz'
          rw [if_neg (nI_nlt (by omega) (by omega))]
          exact hz'
  refine hcls _ (fun M3 E4 => ?_)
  have hbb : ∀ b, bst o (fun j => Y (T j)) (firstT (rl (fun j => V j / cutN pl)) kk k) = some b → b < 60 := by
    intro b hb
    cases hf : firstT (rl (fun j => V j / cutN pl)) kk k with
    | none => rw [hf] at hb; exact ho b hb
    | some j =>
      rw [hf] at hb
      have h1 : b ≤ Y (T j) := mn_le hb
      have := (hY (T j) (k4 j (firstT_some k hf).1).2.2.1).1
      omega
  refine ro3 (fun m x y w N' => ∃ j, j + m = k ∧ w = nI (j + 1) ∧ (0 < j → y = nI (rl (fun j => V j / cutN pl) (j - 1))) ∧ x = orM (bst o (fun j => Y (T j)) (firstT (rl (fun j => V j / cutN pl)) kk j)) ∧ N' = N) ?_ fuel k _ _ _ N (by show k < 5000; omega) ⟨0, by omega, rfl, fun w => absurd w (by decide), rfl, rfl⟩
  rintro m rd2 x y _ N2 ⟨j, hj, rfl, hy, rfl, hN2⟩ ih2
  rw [hN2]
  unfold f_X10_lineAt
  by_cases hjk : j = k
  · subst hjk
    simp (maxSteps := 1000000) (disch := omega) only [vv_e, mm_e, jn_e, bd_e, bd_i, ld_i, nI_add, pk_mul, nlt, if_pos, if_neg, l_0, l_1, l_2, l_3, l_4, l_5, l_6, l_7, l_8, l_9, l_10, l_11, l_12, l_13, l_16, l_20, l_24, l_30, l_32, l_33, l_38, l_42, l_43, l_45, l_47, l_48, l_50, l_57, l_60, l_61, l_62, l_96, l_97, l_99, l_100, l_102, l_105, l_110, l_121, l_122, l_124, l_128, l_200, l_255, l_270, l_350, l_360, l_400, l_440, l_490, l_500, l_999, l_1000, l_9999, l_10000, l_99999, l_100000, l_1000000, l_1000000001, l_1000000002, l_1000000003, l_1000000005, l_1000000011, l_1000000012, l_1000000013, l_1000000014, k3]
    exact ih (n - 1) _ _ _ _ _ _ (by omega) ⟨l + 1, _, by omega, rfl, rfl, rfl, rfl, hbb, E4, rfl⟩
  obtain ⟨c1, c2, c3, c4, c5, c6, c7, c8, c9⟩ := k4 j (by omega)
  obtain ⟨y1, y2, y3⟩ := hY (T j) c3
  have yy : f_X10_yearOf 0 (nI (F j)) N = some (nI (Y (T j)), N) := by
    unfold f_X10_yearOf f_X10_figureAt
    simp (maxSteps := 1000000) (disch := omega) only [vv_e, mm_e, jn_e, bd_e, bd_i, e2_0_0, e2_0_1, e2_0_2, e2_0_4, e2_0_5, e2_0_6, e2_0_7, e2_0_8, e2_0_9, e2_0_10, e2_0_11, e2_0_12, e2_0_24, e2_0_25, e2_0_28, e2_0_29, e2_0_30, e2_0_34, e2_0_35, e2_0_36, e2_0_38, ld_i, st_i, la_i, sl_i, nI_add, pk_mul, pk_sub, ng_add, neg_neg_n, nlt, nle, neq, ng_lt, gn_lt, gg_lt, ng_le, gn_le, gg_le, ng_eq, gn_eq, gg_eq, dv_i, if_pos, if_neg, ite_tt, ite_ff, if_b2, if_b2n, l_0, l_1, l_2, l_3, l_4, l_5, l_6, l_7, l_8, l_9, l_10, l_11, l_12, l_13, l_16, l_20, l_24, l_30, l_32, l_33, l_38, l_42, l_43, l_45, l_47, l_48, l_50, l_57, l_60, l_61, l_62, l_96, l_97, l_99, l_100, l_102, l_105, l_110, l_121, l_122, l_124, l_128, l_200, l_255, l_270, l_350, l_360, l_400, l_440, l_490, l_500, l_999, l_1000, l_9999, l_10000, l_99999, l_100000, l_1000000, l_1000000001, l_1000000002, l_1000000003, l_1000000005, l_1000000011, l_1000000012, l_1000000013, l_1000000014, c9, y3]
  have hrj := rl_le (fun j => V j / cutN pl) j
  -- one figure on
  have fin : ∀ v, v = rl (fun j => V j / cutN pl) j → R2 (fun _ M N => Inv M N) (rc (orN (bst o (fun j => Y (T j)) (firstT (rl (fun j => V j / cutN pl)) kk k))) (nI (l + 1)) M3) (if nI v < nI kk then rd2 (orM (bst o (fun j => Y (T j)) (firstT (rl (fun j => V j / cutN pl)) kk j))) (nI v) (nI (j + 1 + 1)) N else if orM (bst o (fun j => Y (T j)) (firstT (rl (fun j => V j / cutN pl)) kk j)) < nI 0 then rd2 (nI (Y (T j))) (nI v) (nI (j + 1 + 1)) N else if nI (Y (T j)) < orM (bst o (fun j => Y (T j)) (firstT (rl (fun j => V j / cutN pl)) kk j)) then rd2 (nI (Y (T j))) (nI v) (nI (j + 1 + 1)) N else rd2 (orM (bst o (fun j => Y (T j)) (firstT (rl (fun j => V j / cutN pl)) kk j))) (nI v) (nI (j + 1 + 1)) N) := by
    intro v hv'
    subst hv'
    have go : ∀ X, X = orM (bst o (fun j => Y (T j)) (firstT (rl (fun j => V j / cutN pl)) kk (j + 1))) → R2 (fun _ M N => Inv M N) (rc (orN (bst o (fun j => Y (T j)) (firstT (rl (fun j => V j / cutN pl)) kk k))) (nI (l + 1)) M3) (rd2 X (nI (rl (fun j => V j / cutN pl) j)) (nI (j + 1 + 1)) N) := fun X hX' => ih2 (m - 1) _ _ _ _ (by omega) ⟨j + 1, by omega, rfl, fun _ => rfl, hX', rfl⟩
    have fe : firstT (rl (fun j => V j / cutN pl)) kk (j + 1) = match firstT (rl (fun j => V j / cutN pl)) kk j with
      | some i => some i
      | none => if kk ≤ rl (fun j => V j / cutN pl) j then some j else none := rfl
    by_cases hlt : rl (fun j => V j / cutN pl) j < kk
    · rw [if_pos (nI_lt hlt (by omega))]
      apply go
      rw [fe]
      cases hf : firstT (rl (fun j => V j / cutN pl)) kk j with
      | none => dsimp only; rw [if_neg (by omega)]
      | some i => rfl
    rw [if_neg (nI_nlt (by omega) (by omega))]
    cases hf : firstT (rl (fun j => V j / cutN pl)) kk j with
    | none =>
      rw [hf] at fe
      dsimp only at fe
      rw [if_pos (by omega)] at fe
      rw [fe] at go
      have eb : bst o (fun j => Y (T j)) none = o := rfl
      have eb2 : bst o (fun j => Y (T j)) (some j) = mn o (Y (T j)) := rfl
      rw [eb]
      rw [eb2] at go
      cases o with
      | none =>
        rw [if_pos (show orM none < nI 0 by decide)]
        exact go _ rfl
      | some b =>
        have hb := ho b rfl
        rw [orM_s, if_neg (nI_nlt (a := b) (b := 0) (by omega) (by omega))]
        unfold mn at go
        dsimp only at go
        by_cases hlt2 : Y (T j) < b
        · rw [if_pos (nI_lt hlt2 (by omega))]
          rw [if_pos hlt2] at go
          exact go _ rfl
        · rw [if_neg (nI_nlt (by omega) (by omega))]
          rw [if_neg hlt2] at go
          exact go _ rfl
    | some i =>
      rw [hf] at fe
      dsimp only at fe
      rw [fe] at go
      obtain ⟨i1, i2, i3⟩ := firstT_some j hf
      obtain ⟨b, eb⟩ := mn_some o (Y (T i))
      have hb1 := mn_le eb
      have hb2 := hYT j i (by omega) (by omega)
      have eb2 : bst o (fun j => Y (T j)) (some i) = some b := eb
      rw [eb2] at go ⊢
      rw [orM_s, if_neg (nI_nlt (a := b) (b := 0) (by omega) (by omega)), if_neg (nI_nlt (by omega) (by omega))]
      exact go _ rfl
  have yi := y_inLine (N' := N) (F := F) (V := V) hpl1 hpl (show l < 6 by omega) k1 f3 (show j < k by omega) c1 c2 c5 c7
  cases j with
  | zero =>
    have k3' := k3
    simp (maxSteps := 1000000) (disch := omega) only [vv_e, mm_e, jn_e, bd_e, bd_i, ld_i, nI_add, pk_mul, l_0, l_1, l_2, l_3, l_4, l_5, l_6, l_7, l_8, l_9, l_10, l_11, l_12, l_13, l_16, l_20, l_24, l_30, l_32, l_33, l_38, l_42, l_43, l_45, l_47, l_48, l_50, l_57, l_60, l_61, l_62, l_96, l_97, l_99, l_100, l_102, l_105, l_110, l_121, l_122, l_124, l_128, l_200, l_255, l_270, l_350, l_360, l_400, l_440, l_490, l_500, l_999, l_1000, l_9999, l_10000, l_99999, l_100000, l_1000000, l_1000000001, l_1000000002, l_1000000003, l_1000000005, l_1000000011, l_1000000012, l_1000000013, l_1000000014, k3, c5, yy]
    rw [if_neg (nI_nlt (by omega) (by omega)), if_neg (nI_nlt (by omega) (by omega))]
    exact fin 1 rfl
  | succ j =>
    obtain ⟨d1, d2, d3, d4, d5, d6, d7, d8, d9⟩ := k4 j (by omega)
    have yj := y_inLine (N' := N) (F := F) (V := V) hpl1 hpl (show l < 6 by omega) k1 f3 (show j < k by omega) d1 d2 d5 d7
    have q1 : V (j + 1) / cutN pl ≤ V (j + 1) := Nat.div_le_self _ _
    have q2 : V j / cutN pl ≤ V j := Nat.div_le_self _ _
    have hy' := hy (by omega)
    simp only [Nat.add_sub_cancel] at hy'
    subst hy'
    simp (maxSteps := 1000000) (disch := omega) only [vv_e, mm_e, jn_e, bd_e, bd_i, ld_i, nI_add, pk_mul, pk_sub1, l_0, l_1, l_2, l_3, l_4, l_5, l_6, l_7, l_8, l_9, l_10, l_11, l_12, l_13, l_16, l_20, l_24, l_30, l_32, l_33, l_38, l_42, l_43, l_45, l_47, l_48, l_50, l_57, l_60, l_61, l_62, l_96, l_97, l_99, l_100, l_102, l_105, l_110, l_121, l_122, l_124, l_128, l_200, l_255, l_270, l_350, l_360, l_400, l_440, l_490, l_500, l_999, l_1000, l_9999, l_10000, l_99999, l_100000, l_1000000, l_1000000001, l_1000000002, l_1000000003, l_1000000005, l_1000000011, l_1000000012, l_1000000013, l_1000000014, k3, c5, yy, yi, yj]
    rw [if_neg (nI_nlt (by omega) (by omega)), if_pos (nI_lt (by omega) (by omega))]
    by_cases he : V (j + 1) / cutN pl = V j / cutN pl
    · rw [if_pos (by rw [he])]
      have er : rl (fun j => V j / cutN pl) (j + 1) = rl (fun j => V j / cutN pl) j + 1 := by rw [rl]; exact if_pos he
      exact fin _ er.symm
    · rw [if_neg (fun q => he ((nI_eq (by omega) (by omega)).mp q))]
      have er : rl (fun j => V j / cutN pl) (j + 1) = 1 := by rw [rl]; exact if_neg he
      exact fin 1 er.symm
