theorem ro4 {Q : Int32 → Mem → Mem → Prop} {x : Option (Int32 × Mem)} {C1 C2 C3 C4 : Type} {C : (C1 → C2 → C3 → C4 → Mem → Option (Int32 × Mem)) → C1 → C2 → C3 → C4 → Mem → Option (Int32 × Mem)} (I : Nat → C1 → C2 → C3 → C4 → Mem → Prop) (hs : ∀ (n : Nat) (rd : C1 → C2 → C3 → C4 → Mem → Option (Int32 × Mem)) (c : C1) (d : C2) (c3 : C3) (c4 : C4) (N : Mem), I n c d c3 c4 N → (∀ m c' d' c3' c4' N', m < n → I m c' d' c3' c4' N' → R2 Q x (rd c' d' c3' c4' N')) → R2 Q x (C rd c d c3 c4 N)) : ∀ g n c d c3 c4 N, n < g → I n c d c3 c4 N → R2 Q x (it4 C g c d c3 c4 N) := by
  intro g
  induction g with
  | zero => intro n c d c3 c4 N h; omega
  | succ g ih => intro n c d c3 c4 N h hI; exact hs n _ c d c3 c4 N hI (fun m c' d' c3' c4' N' hm hI' => ih m c' d' c3' c4' N' (by omega) hI')
/-- z alone has gone on -/
theorem inv_zz {M N M' N' : Mem} {z : Int32} (h : Inv M N) (h1 : M' 1 8 = z) (h2 : ∀ f, f ≠ 8 → M' 1 f = M 1 f) (h3 : ∀ a, a ≠ 1 → notS a → M' a = M a) (g1 : N' 1 7 = z) (g2 : ∀ j, j ≠ 7 → N' 1 j = N 1 j) (g3 : ∀ a, a = 2 ∨ (4 ≤ a ∧ a ≤ 12) ∨ a = 20 → N' a = N a) (g4 : N' 0 3 = N 0 3) (g5 : N' 0 13 = N 0 13) (g6 : N' 0 37 = N 0 37) : Inv M' N' := by
  obtain ⟨r, M2, N2, e1, e2, hI⟩ := op_seed z M N h
  rw [x_seed] at e1
  rw [y_seed] at e2
  injection e1 with e1
  injection e1 with _ e1
  injection e2 with e2
  injection e2 with _ e2
  rw [← e1, ← e2] at hI
  refine hI.ee (fun a a1 a2 a3 a4 a5 a6 => ?_) ⟨fun a ha => ?_, g4, g5, g6⟩
  · by_cases e : a = 1
    · subst e
      funext f
      by_cases hf : f = 8
      · subst hf; rw [up_same]; exact h1
      · rw [up_k _ _ _ _ _ hf]; exact h2 f hf
    · rw [up_ne e]
      exact h3 a e ⟨a1, a2, a3, a4, a5, a6⟩
  · by_cases e : a = 1
    · subst e
      funext j
      by_cases hj : j = 7
      · subst hj; rw [up_same]; exact g1
      · rw [up_k _ _ _ _ _ hj]; exact g2 j hj
    · rw [up_ne e]
      exact g3 a (by omega)
theorem lands_neg {p : Int32} (h : p < 0) : ¬ (1 ≤ p / 100) := by
  intro q
  have h1 : p.toInt < 0 := Int32.lt_iff_toInt_lt.mp h
  have h2 : (1 : Int) ≤ (p / 100).toInt := Int32.le_iff_toInt_le.mp q
  rw [Int32.toInt_div_of_ne_right _ _ (by decide), show (100 : Int32).toInt = 100 from rfl] at h2
  have h4 : 0 ≤ (-p.toInt).tdiv 100 := Int.tdiv_nonneg (by omega) (by decide)
  rw [Int.neg_tdiv] at h4
  omega
theorem op_share : ∀ (p q r t : Int32) (M N : Mem), Inv M N → Same (f_X9_share 0 p q r t M) (f_X10_share 0 p q r t N) := by
  intro p q r t M N h
  obtain ⟨nT, nF, nX, nC, nE, nL, nS, hS, hT, hF, hX, hL, hC, hR, hD, hN, hO, hZ⟩ := h.st
  obtain ⟨z1, z2, bs, hbs, z3⟩ := id hZ
  have z4 : N 1 8 = nI bs := z2.trans z3
  unfold f_X9_share f_X10_share
  by_cases hp0 : p < 0
  · simp only [vv_e, mm_e, jn_e, bd_e, bd_i, s_within, if_b2]
    rw [if_neg (fun w => lands_neg hp0 w.1), if_pos hp0]
    exact Same.mk h
  obtain ⟨n, hn, rfl⟩ := nI_of hp0
  have ed : nI n / 100 = nI (n / 100) := pk_div (d := 100) hn (by decide) (by decide)
  have er : jr (nI n) 100 = nI (n % 100) := pk_rem (d := 100) hn (by decide) (by decide)
  have hd : n / 100 ≤ n := Nat.div_le_self _ _
  simp only [vv_e, mm_e, jn_e, bd_e, bd_i, e1_0_0, e1_0_1, e1_0_3, e1_0_4, e1_0_6, e1_0_7, e1_1_0, e1_1_1, e1_1_2, e1_1_3, e1_1_4, e1_1_5, e1_1_9, e1_2_1, e1_2_3, e1_2_4, e1_2_5, e1_2_6, e1_2_7, e1_9_1, e1_9_2, e1_9_3, e1_9_4, e1_9_5, e1_9_6, e1_16_0, e1_16_1, e1_19_0, e1_19_2, e1_19_3, e1_19_4, e1_24_1, e1_24_2, e1_24_3, e1_24_5, e1_61_0, e1_61_6, e2_0_0, e2_0_1, e2_0_2, e2_0_4, e2_0_5, e2_0_6, e2_0_7, e2_0_8, e2_0_9, e2_0_10, e2_0_11, e2_0_12, e2_0_24, e2_0_25, e2_0_28, e2_0_29, e2_0_30, e2_0_34, e2_0_35, e2_0_36, e2_0_38, ed, er, s_within, s_land, s_arePairs, s_isPairs, s_places, y_places, if_b2, s_isInL (nI (n / 100)) 1 200 1 200 N rfl rfl, s_isInL (nI (n % 100)) 2 12 2 12 N rfl rfl, s_isInL r 2 12 2 12 N rfl rfl]
  rw [if_neg hp0]
  by_cases c1 : 1 ≤ nI (n / 100) ∧ nI (n / 100) ≤ 200
  case neg =>
    rw [if_neg c1, if_neg c1]
    exact Same.mk h
  rw [if_pos c1, if_pos c1]
  by_cases c2 : 2 ≤ nI (n % 100) ∧ nI (n % 100) ≤ 12
  case neg =>
    rw [if_neg c2, if_neg c2]
    exact Same.mk h
  rw [if_pos c2, if_pos c2]
  by_cases c3 : 1 ≤ q ∧ q ≤ 999
  case neg =>
    rw [if_neg c3, if_neg c3]
    exact Same.mk h
  rw [if_pos c3, if_pos c3]
  by_cases c4 : 2 ≤ r ∧ r ≤ 12
  case neg =>
    rw [if_neg c4, if_neg c4]
    exact Same.mk h
  rw [if_pos c4, if_pos c4]
  by_cases c5 : 1 ≤ t ∧ t ≤ 4
  case neg =>
    rw [if_neg c5, if_neg c5]
    exact Same.mk h
  rw [if_pos c5, if_pos c5]
  obtain ⟨pr, hpr, rfl⟩ := rgN (p := q) (c := 999) (by decide) ⟨Int32.le_trans (by decide) c3.1, c3.2⟩
  have hpr1 : 1 ≤ pr := (nI_leI (a := 1) (by decide) (by omega)).mp c3.1
  obtain ⟨kk, hkk, rfl⟩ := rgN (p := r) (c := 12) (by decide) ⟨Int32.le_trans (by decide) c4.1, c4.2⟩
  have hkk1 : 2 ≤ kk := (nI_leI (a := 2) (by decide) (by omega)).mp c4.1
  obtain ⟨pl, hpl, rfl⟩ := rgN (p := t) (c := 4) (by decide) ⟨Int32.le_trans (by decide) c5.1, c5.2⟩
  have hpl1 : 1 ≤ pl := (nI_leI (a := 1) (by decide) (by omega)).mp c5.1
  have c2' : n % 100 ≤ 12 := (nI_leI (b := 12) (by omega) (by decide)).mp c2.2
  have c1' : n / 100 ≤ 200 := (nI_leI (b := 200) (by omega) (by decide)).mp c1.2
  generalize n / 100 = m at *
  generalize n % 100 = k at *
  obtain ⟨s, hs, o1, o2⟩ := spX (b := 1) (Or.inl rfl) hX pr (by omega) (by omega) (nI 0)
  rw [show (0 : Int32) = nI 0 from rfl]
  obtain ⟨N1, e1, E1⟩ := o1.v
  rw [e1, bd_e]
  apply R2.same
  refine lr22 (fun n v d M' w e N' => ∃ i c z, i + n = m ∧ d = nI i ∧ e = nI i ∧ v = nI c ∧ w = nI c ∧ M' 1 8 = z ∧ (∀ f, f ≠ 8 → M' 1 f = M 1 f) ∧ (∀ a, a ≠ 1 → notS a → M' a = M a) ∧ N' 1 7 = z ∧ (∀ j, j ≠ 7 → N' 1 j = N 1 j) ∧ (∀ a, a = 2 ∨ (4 ≤ a ∧ a ≤ 12) ∨ a = 20 → N' a = N a) ∧ N' 0 3 = N 0 3 ∧ N' 0 13 = N 0 13 ∧ N' 0 37 = N 0 37) ?_ fuel fuel m _ _ M _ _ N1 (by show m < 5000; omega) (by show m < 5000; omega) ⟨0, 0, M 1 8, by omega, rfl, rfl, rfl, rfl, rfl, fun _ _ => rfl, fun _ _ _ => rfl, by rw [E1.1 1 (by omega)]; exact z1, fun j _ => by rw [E1.1 1 (by omega)], fun a ha => E1.1 a (by omega), E1.2.1, E1.2.2.1, E1.2.2.2⟩
  rintro n2 rc rd v d M' w e N' ⟨i, c, z, hi, rfl, rfl, rfl, rfl, m1, m2, m3, g1, g2, g3, g4, g5, g6⟩ ih
  by_cases him : i = m
  · subst him
    rw [if_neg (nI_nlt (Nat.le_refl _) (by omega)), if_neg (nI_nlt (Nat.le_refl _) (by omega))]
    exact R2.mk (inv_zz h m1 m2 m3 g1 g2 g3 g4 g5 g6)
  rw [if_pos (nI_lt (show i < m by omega) (by omega)), if_pos (nI_lt (show i < m by omega) (by omega))]
  have hcell : ∀ k, 8 ≤ k → k ≤ 13 → M' (1 + k) = M (1 + k) := fun k h1 h2 => m3 (1 + k) (by omega) (by unfold notS; omega)
  obtain ⟨r1, M2, e2, q1, q2, q3, q4⟩ := x_drawLand (b := 1) (t := k) (bs := bs) (Or.inl rfl) c2' hs (o2 M' hcell) (by rw [m2 7 (by decide)]; exact z3) m1
  obtain ⟨V, hV⟩ := Classical.axiomOfChoice (fun j => dval_rg bs s (zN z (j + 1)))
  have hv : ∀ j, j < k → V j < 10000 ∧ M2 30 j = nI (V j) := fun j hj => ⟨(hV j).1, by rw [← (hV j).2]; exact q3 j hj⟩
  have xr := x_reach 30 k pl kk V M2 rfl c2' hpl1 hpl (by omega) hv
  rw [e2, bd_e, xr, bd_e]
  have m2' : ∀ f, f ≠ 8 → M2 1 f = M 1 f := fun f hf => (q2 f hf).trans (m2 f hf)
  have m3' : ∀ a, a ≠ 1 → notS a → M2 a = M a := fun a h1 h2 => (q4 a h1 h2).trans (m3 a h1 h2)
  -- the model's land
  have land : ∀ x, (∀ N3 : Mem, N3 1 7 = zN z k → (∀ j, j ≠ 7 → N3 1 j = N 1 j) → (∀ a, a = 2 ∨ (4 ≤ a ∧ a ≤ 12) ∨ a = 20 → N3 a = N a) → N3 0 3 = N 0 3 → N3 0 13 = N 0 13 → N3 0 37 = N 0 37 → R2 (fun _ M N => Inv M N) x (rd (if firstT (rl (fun j => V j / cutN pl)) kk k = none then nI c else nI (c + 1)) (nI (i + 1)) N3)) →
      R2 (fun _ M N => Inv M N) x (it4 (fun (rc16 : Int32 → Int32 → Int32 → Int32 → Mem → Option (Int32 × Mem)) (v12 v13 v14 v15 : Int32) (M : Mem) => if v15 < nI k then bd (f_X10_drawn 0 (nI s) M) fun x19 M => bd (f_X10_placed x19 (nI pl) M) fun x20 M => if x20 = v14 then if v12 < v13 + 1 then rc16 (v13 + 1) (v13 + 1) x20 (v15 + 1) M else rc16 v12 (v13 + 1) x20 (v15 + 1) M else if v12 < 1 then rc16 1 1 x20 (v15 + 1) M else rc16 v12 1 x20 (v15 + 1) M else if v12 < nI kk then rd (nI c + nI 0) (nI (i + 1)) M else rd (nI (c + 1)) (nI (i + 1)) M) fuel (nI 0) (nI 0) (-1) (nI 0) N') := by
    intro x hx
    refine ro4 (fun n a b c d N2 => ∃ j, j + n = k ∧ d = nI j ∧ a = nI (mxw (rl (fun j => V j / cutN pl)) j) ∧ ((j = 0 ∧ c = -nI 1) ∨ (0 < j ∧ b = nI (rl (fun j => V j / cutN pl) (j - 1)) ∧ c = nI (V (j - 1) / cutN pl))) ∧ N2 1 7 = zN z j ∧ (∀ j, j ≠ 7 → N2 1 j = N 1 j) ∧ (∀ a, a = 2 ∨ (4 ≤ a ∧ a ≤ 12) ∨ a = 20 → N2 a = N a) ∧ N2 0 3 = N 0 3 ∧ N2 0 13 = N 0 13 ∧ N2 0 37 = N 0 37) ?_ fuel k _ _ _ _ N' (by show k < 5000; omega) ⟨0, by omega, rfl, rfl, Or.inl ⟨rfl, rfl⟩, g1, g2, g3, g4, g5, g6⟩
    rintro n3 rd4 _ b4 c4' _ N2 ⟨j, hj, rfl, rfl, hbc, w1, w2, w3, w4, w5, w6⟩ ih4
    have hm := mxrl_le (fun j => V j / cutN pl) j
    by_cases hjk : j = k
    · subst hjk
      rw [if_neg (nI_nlt (Nat.le_refl _) (by omega))]
      have hx' := hx N2 w1 w2 w3 w4 w5 w6
      by_cases hmk : mxw (rl (fun j => V j / cutN pl)) j < kk
      · rw [if_pos ((first_mx (f := rl (fun j => V j / cutN pl)) (fun j => (rl_le _ j).2) (by omega)).mpr hmk)] at hx'
        rw [if_pos (nI_lt hmk (by omega)), nI_add]
        exact hx'
      · rw [if_neg (fun q => hmk ((first_mx (f := rl (fun j => V j / cutN pl)) (fun j => (rl_le _ j).2) (by omega)).mp q))] at hx'
        rw [if_neg (nI_nlt (by omega) (by omega))]
        exact hx'
    rw [if_pos (nI_lt (show j < k by omega) (by omega)), y_drawn hs w1 (by rw [w2 8 (by decide)]; exact z4), bd_e]
    have hd1 : dval bs s (zN z j * 1103515245 + 12345) = nI (V j) := (hV j).2
    rw [hd1, y_placed (V j) pl (hV j).1 hpl1 hpl, bd_e]
    have hrl := rl_le (fun j => V j / cutN pl) j
    have dj : V j / cutN pl ≤ V j := Nat.div_le_self _ _
    have vj := (hV j).1
    have fin : ∀ u, u = rl (fun j => V j / cutN pl) j → R2 (fun _ M N => Inv M N) x (if nI (mxw (rl (fun j => V j / cutN pl)) j) < nI u then rd4 (nI u) (nI u) (nI (V j / cutN pl)) (nI (j + 1)) (up N2 1 7 (zN z j * 1103515245 + 12345)) else rd4 (nI (mxw (rl (fun j => V j / cutN pl)) j)) (nI u) (nI (V j / cutN pl)) (nI (j + 1)) (up N2 1 7 (zN z j * 1103515245 + 12345))) := by
      intro u hu
      subst hu
      have st' : ∀ a, a = nI (mxw (rl (fun j => V j / cutN pl)) (j + 1)) → R2 (fun _ M N => Inv M N) x (rd4 a (nI (rl (fun j => V j / cutN pl) j)) (nI (V j / cutN pl)) (nI (j + 1)) (up N2 1 7 (zN z j * 1103515245 + 12345))) := fun a ha => ih4 (n3 - 1) _ _ _ _ _ (by omega) ⟨j + 1, by omega, rfl, ha, Or.inr ⟨by omega, rfl, rfl⟩, up_same _ _ _ _, fun j hj => by rw [up_k _ _ _ _ _ hj]; exact w2 j hj, fun a ha => by rw [up_ne (by omega)]; exact w3 a ha, by rw [up_ne (by decide)]; exact w4, by rw [up_ne (by decide)]; exact w5, by rw [up_ne (by decide)]; exact w6⟩
      by_cases hlt : mxw (rl (fun j => V j / cutN pl)) j < rl (fun j => V j / cutN pl) j
      · rw [if_pos (nI_lt hlt (by omega))]
        exact st' _ (by rw [mxw, if_pos hlt])
      · rw [if_neg (nI_nlt (by omega) (by omega))]
        exact st' _ (by rw [mxw, if_neg hlt])
    rcases hbc with ⟨rfl, rfl⟩ | ⟨hj0, rfl, rfl⟩
    · rw [if_neg (fun w => by rw [ng_eq (by omega) (by omega)] at w; exact absurd w (Nat.succ_ne_zero _))]
      exact fin 1 rfl
    · obtain ⟨j, rfl⟩ : ∃ j', j = j' + 1 := ⟨j - 1, by omega⟩
      have v1 := (hV j).1
      have dj1 : V j / cutN pl ≤ V j := Nat.div_le_self _ _
      rw [Nat.add_sub_cancel]
      by_cases he : V (j + 1) / cutN pl = V j / cutN pl
      · have err : rl (fun j => V j / cutN pl) (j + 1) = rl (fun j => V j / cutN pl) j + 1 := by rw [rl]; exact if_pos he
        rw [if_pos (by rw [he]), nI_1, nI_1]
        exact fin _ err.symm
      · have err : rl (fun j => V j / cutN pl) (j + 1) = 1 := by rw [rl]; exact if_neg he
        rw [if_neg (fun q => he ((nI_eq (by omega) (by omega)).mp q)), nI_1]
        exact fin 1 err.symm
  rw [nI_1 i, nI_1 c]
  cases hf : firstT (rl (fun j => V j / cutN pl)) kk k with
  | none =>
    rw [hf] at land
    rw [orM_n', if_pos (show -nI 1 < nI 0 by decide)]
    refine land _ (fun N3 w1 w2 w3 w4 w5 w6 => ?_)
    rw [if_pos rfl]
    exact ih (n2 - 1) _ _ _ _ _ _ (by omega) ⟨i + 1, c, zN z k, by omega, rfl, rfl, rfl, rfl, q1, m2', m3', w1, w2, w3, w4, w5, w6⟩
  | some j =>
    rw [hf] at land
    have := (firstT_some k hf).1
    rw [orM_s, if_neg (nI_nlt (a := j) (b := 0) (by omega) (by omega))]
    refine land _ (fun N3 w1 w2 w3 w4 w5 w6 => ?_)
    rw [if_neg (by simp)]
    exact ih (n2 - 1) _ _ _ _ _ _ (by omega) ⟨i + 1, c + 1, zN z k, by omega, rfl, rfl, rfl, rfl, q1, m2', m3', w1, w2, w3, w4, w5, w6⟩
