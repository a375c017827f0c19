def Wk (w : Nat → Nat → Nat) (a b L : Nat) : Prop := ∀ P : Nat → Nat → Nat → Prop, (∀ x, x < 6 → P x x 0) → (∀ x y z L, y < 6 → z < 6 → P x y L → 0 < w y z → P x z (L + w y z)) → P a b L
theorem Wk.rf {w : Nat → Nat → Nat} {a : Nat} (h : a < 6) : Wk w a a 0 := fun _ h1 _ => h1 a h
theorem Wk.st {w : Nat → Nat → Nat} {a b c L : Nat} (h : Wk w a b L) (hb : b < 6) (hc : c < 6) (hp : 0 < w b c) : Wk w a c (L + w b c) := fun P h1 h2 => h2 a b c L hb hc (h P h1 h2) hp
theorem Wk.pre {w : Nat → Nat → Nat} {a b L : Nat} (h : Wk w a b L) : a < 6 → ∀ z, z < 6 → 0 < w z a → Wk w z b (w z a + L) := by
  refine h (fun a b L => a < 6 → ∀ z, z < 6 → 0 < w z a → Wk w z b (w z a + L)) ?_ ?_
  · intro x hx _ z hz hp
    have := (Wk.rf (w := w) hz).st hz hx hp
    rw [Nat.zero_add] at this
    exact this
  · intro x y z L hy hz ih hp hx v hv hpv
    have := (ih hx v hv hpv).st hy hz hp
    rw [Nat.add_assoc] at this
    exact this
theorem Wk.rev {w : Nat → Nat → Nat} {a b L : Nat} (hs : ∀ a b, a < 6 → b < 6 → w a b = w b a) (h : Wk w a b L) : b < 6 → Wk w b a L := by
  refine h (fun a b L => b < 6 → Wk w b a L) ?_ ?_
  · intro x hx _
    exact Wk.rf hx
  · intro x y z L hy hz ih hp _
    have := (ih hy).pre hy z hz (by rw [hs z y hz hy]; exact hp)
    rw [hs z y hz hy, Nat.add_comm] at this
    exact this
def WD (w : Nat → Nat → Nat) (s : Nat) (d : Nat → Option Nat) : Prop := ∀ c x, c < 6 → d c = some x → Wk w s c x
theorem WD.rlx {w : Nat → Nat → Nat} {s a b : Nat} {d : Nat → Option Nat} (h : WD w s d) (ha : a < 6) (hb : b < 6) : WD w s (rlx w a b d) := by
  intro c x hc hx
  by_cases e : c = b
  · subst e
    rcases rlx_cases w a c d with ⟨e1, -⟩ | ⟨y, e1, e2, e3, -⟩
    · rw [e1] at hx; exact h c x hc hx
    · rw [e3] at hx
      cases hx
      exact (h a y ha e1).st ha hc e2
  · rw [rlx_o e] at hx
    exact h c x hc hx
theorem WD.row {w : Nat → Nat → Nat} {s a : Nat} {d : Nat → Option Nat} (h : WD w s d) (ha : a < 6) : ∀ n, n ≤ 6 → WD w s (rowN w a d n)
  | 0, _ => h
  | n + 1, hn => (WD.row h ha n (by omega)).rlx ha (by omega)
theorem WD.rnd {w : Nat → Nat → Nat} {s : Nat} {d : Nat → Option Nat} (h : WD w s d) : ∀ n, n ≤ 6 → WD w s (rndN w d n)
  | 0, _ => h
  | n + 1, hn => (WD.rnd h n (by omega)).row (by omega) 6 (Nat.le_refl _)
theorem WD.all {w : Nat → Nat → Nat} {s : Nat} (hs : s < 6) : ∀ k, WD w s (allN w s k)
  | 0 => by
    intro c x hc hx
    unfold allN at hx
    by_cases e : c = s
    · rw [if_pos e] at hx
      cases hx
      rw [e]
      exact Wk.rf hs
    · rw [if_neg e] at hx; cases hx
  | k + 1 => (WD.all hs k).rnd 6 (Nat.le_refl _)
theorem row_le {w : Nat → Nat → Nat} {a : Nat} {d : Nat → Option Nat} (c : Nat) : ∀ n, ole (rowN w a d n c) (d c)
  | 0 => ole.rf _
  | n + 1 => (rlx_le _ _ _ _ _).tr (row_le c n)
theorem rnd_le {w : Nat → Nat → Nat} {d : Nat → Option Nat} (c : Nat) : ∀ n, ole (rndN w d n c) (d c)
  | 0 => ole.rf _
  | n + 1 => (row_le c 6).tr (rnd_le c n)
theorem all_s {w : Nat → Nat → Nat} {s : Nat} : ∀ k, ole (allN w s k s) (some 0)
  | 0 => by unfold allN; rw [if_pos rfl]; exact Nat.le_refl 0
  | k + 1 => (rnd_le s 6).tr (all_s k)
theorem dd_wk {w : Nat → Nat → Nat} {s t L : Nat} (hs : s < 6) (h : Wk w s t L) : ole (dd w s t) (some L) := by
  have st := (stable (w := w) hs).2
  have key := h (fun x y L => x < 6 → ∀ u, ole (allN w s 5 x) (some u) → ole (allN w s 5 y) (some (u + L))) (fun x hx _ u hu => hu) (fun x y z L hy hz ih hp hx u hu => by
    have q := ih hx u hu
    cases e : allN w s 5 y with
    | none => rw [e] at q; exact q.elim
    | some v =>
      rw [e] at q
      have q' : v ≤ u + L := q
      refine (st y z v hy hz e hp).tr ?_
      show v + w y z ≤ u + (L + w y z)
      omega) hs 0 (all_s 5)
  rw [Nat.zero_add] at key
  exact key
theorem dd_sym {w : Nat → Nat → Nat} (hw : ∀ a b, a < 6 → b < 6 → w a b = w b a) {s t : Nat} (hs : s < 6) (ht : t < 6) : dd w s t = dd w t s := by
  have half : ∀ s t, s < 6 → t < 6 → ole (dd w t s) (dd w s t) := fun s t hs ht => by
    cases e : dd w s t with
    | none => exact ole.nn
    | some x => exact dd_wk ht ((WD.all hs 5 t x ht e).rev hw ht)
  have h1 := half s t hs ht
  have h2 := half t s ht hs
  cases e1 : dd w s t with
  | none =>
    cases e2 : dd w t s with
    | none => rfl
    | some y => rw [e1, e2] at h2; exact h2.elim
  | some x =>
    cases e2 : dd w t s with
    | none => rw [e1, e2] at h1; exact h1.elim
    | some y =>
      rw [e1, e2] at h1 h2
      have a1 : y ≤ x := h1
      have a2 : x ≤ y := h2
      rw [show x = y by omega]
def cg (o : Option Nat) (u : Nat) : Int32 := match o with
  | none => nI 0
  | some x => if u < x then nI 0 else nI 1
theorem cg_01 (o : Option Nat) (u : Nat) : cg o u = nI 0 ∨ cg o u = nI 1 := by
  unfold cg
  cases o with
  | none => exact Or.inl rfl
  | some x =>
    dsimp only
    split
    · exact Or.inl rfl
    · exact Or.inr rfl
theorem dd_b {w : Nat → Nat → Nat} {s t x : Nat} (hw : ∀ a b, a < 6 → b < 6 → w a b ≤ 30) (h : dd w s t = some x) : x ≤ 5400 := by
  have := allN_bnd (s := s) hw 5 t x h
  omega
theorem x_canGo {w : Nat → Nat → Nat} {M : Mem} {s t u : Nat} (hs : s < 6) (ht : t < 6) (hu : u < 20000) (hr : ∀ a b, a < 6 → b < 6 → w a b ≤ 30 ∧ M 20 (a * 6 + b) = nI (w a b)) : OkC M (cg (dd w s t) u) (f_X2_canGo 19 (nI s) (nI t) (nI u) M) := by
  unfold f_X2_canGo
  refine OkC.then (x_least hs ht hr) (fun M' e => ?_)
  have hb := fun x => dd_b (s := s) (t := t) (x := x) (fun a b ha hb => (hr a b ha hb).1)
  unfold cg
  cases hd : dd w s t with
  | none =>
    rw [if_pos orN_n]
    exact Res.mk ⟨rfl, e⟩
  | some x =>
    have hx := hb x hd
    rw [orN_s]
    by_cases hlt : u < x
    · simp (maxSteps := 1000000) (disch := omega) only [ld_i, st_i, la_i, sl_i, nI_add, pk_mul, pk_sub, ng_add, neg_neg_n, nlt, nle, neq, ng_lt, gn_lt, gg_lt, ng_le, gn_le, gg_le, ng_eq, gn_eq, gg_eq, dv_i, if_pos, if_neg, ite_tt, ite_ff, if_b2, if_b2n, l_0, l_1, l_2, l_3, l_4, l_5, l_6, l_7, l_8, l_9, l_10, l_11, l_12, l_13, l_16, l_20, l_24, l_30, l_32, l_33, l_38, l_42, l_43, l_45, l_47, l_48, l_50, l_57, l_60, l_61, l_62, l_96, l_97, l_99, l_100, l_102, l_105, l_110, l_121, l_122, l_124, l_128, l_200, l_255, l_270, l_350, l_360, l_400, l_440, l_490, l_500, l_999, l_1000, l_9999, l_10000, l_99999, l_100000, l_1000000, l_1000000001, l_1000000002, l_1000000003, l_1000000005, l_1000000011, l_1000000012, l_1000000013, l_1000000014]
      exact Res.mk ⟨rfl, e⟩
    · simp (maxSteps := 1000000) (disch := omega) only [ld_i, st_i, la_i, sl_i, nI_add, pk_mul, pk_sub, ng_add, neg_neg_n, nlt, nle, neq, ng_lt, gn_lt, gg_lt, ng_le, gn_le, gg_le, ng_eq, gn_eq, gg_eq, dv_i, if_pos, if_neg, ite_tt, ite_ff, if_b2, if_b2n, l_0, l_1, l_2, l_3, l_4, l_5, l_6, l_7, l_8, l_9, l_10, l_11, l_12, l_13, l_16, l_20, l_24, l_30, l_32, l_33, l_38, l_42, l_43, l_45, l_47, l_48, l_50, l_57, l_60, l_61, l_62, l_96, l_97, l_99, l_100, l_102, l_105, l_110, l_121, l_122, l_124, l_128, l_200, l_255, l_270, l_350, l_360, l_400, l_440, l_490, l_500, l_999, l_1000, l_9999, l_10000, l_99999, l_100000, l_1000000, l_1000000001, l_1000000002, l_1000000003, l_1000000005, l_1000000011, l_1000000012, l_1000000013, l_1000000014]
      exact Res.mk ⟨rfl, e⟩
theorem y_near {w : Nat → Nat → Nat} {N : Mem} {i p v u dA off : Nat} (hi : i < 20) (hp : p < 6) (hv : v < 6) (hu : u < 10000) (hd : dA < 20000) (ho : (u ≤ dA ∧ off = dA - u) ∨ (dA < u ∧ off = u - dA)) (e1 : N 1 (400 + 2 * i) = nI u) (e2 : N 1 (400 + 2 * i + 1) = nI v) (hr : ∀ a b, a < 6 → b < 6 → w a b ≤ 30 ∧ N 1 (360 + 6 * a + b) = nI (w a b)) : OkM N (cg (dd w p v) off) (f_X10_isNear 0 (nI i) (nI p) (nI dA) N) := by
  unfold f_X10_isNear
  simp (maxSteps := 1000000) (disch := omega) only [vv_e, mm_e, jn_e, bd_e, bd_i, e2_0_0, e2_0_1, e2_0_2, e2_0_4, e2_0_5, e2_0_6, e2_0_7, e2_0_8, e2_0_9, e2_0_10, e2_0_11, e2_0_12, e2_0_24, e2_0_25, e2_0_28, e2_0_29, e2_0_30, e2_0_34, e2_0_35, e2_0_36, e2_0_38, ld_i, st_i, la_i, sl_i, nI_add, pk_mul, pk_sub, ng_add, neg_neg_n, nlt, nle, neq, ng_lt, gn_lt, gg_lt, ng_le, gn_le, gg_le, ng_eq, gn_eq, gg_eq, dv_i, if_pos, if_neg, ite_tt, ite_ff, if_b2, if_b2n, l_0, l_1, l_2, l_3, l_4, l_5, l_6, l_7, l_8, l_9, l_10, l_11, l_12, l_13, l_16, l_20, l_24, l_30, l_32, l_33, l_38, l_42, l_43, l_45, l_47, l_48, l_50, l_57, l_60, l_61, l_62, l_96, l_97, l_99, l_100, l_102, l_105, l_110, l_121, l_122, l_124, l_128, l_200, l_255, l_270, l_350, l_360, l_400, l_440, l_490, l_500, l_999, l_1000, l_9999, l_10000, l_99999, l_100000, l_1000000, l_1000000001, l_1000000002, l_1000000003, l_1000000005, l_1000000011, l_1000000012, l_1000000013, l_1000000014, e2]
  refine OkM.then (y_days hp hv hr) (fun N' e => ?_)
  have hb := fun x => dd_b (s := p) (t := v) (x := x) (fun a b ha hb => (hr a b ha hb).1)
  have e1' : N' 1 (400 + 2 * i) = nI u := by rw [e.1 1 (by omega)]; exact e1
  unfold cg
  cases hdd : dd w p v with
  | none =>
    simp (maxSteps := 1000000) (disch := omega) only [vv_e, mm_e, jn_e, bd_e, bd_i, ld_i, st_i, la_i, sl_i, nI_add, pk_mul, pk_sub, ng_add, neg_neg_n, nlt, nle, neq, ng_lt, gn_lt, gg_lt, ng_le, gn_le, gg_le, ng_eq, gn_eq, gg_eq, dv_i, if_pos, if_neg, ite_tt, ite_ff, if_b2, if_b2n, l_0, l_1, l_2, l_3, l_4, l_5, l_6, l_7, l_8, l_9, l_10, l_11, l_12, l_13, l_16, l_20, l_24, l_30, l_32, l_33, l_38, l_42, l_43, l_45, l_47, l_48, l_50, l_57, l_60, l_61, l_62, l_96, l_97, l_99, l_100, l_102, l_105, l_110, l_121, l_122, l_124, l_128, l_200, l_255, l_270, l_350, l_360, l_400, l_440, l_490, l_500, l_999, l_1000, l_9999, l_10000, l_99999, l_100000, l_1000000, l_1000000001, l_1000000002, l_1000000003, l_1000000005, l_1000000011, l_1000000012, l_1000000013, l_1000000014, e1', orM_n']
    exact Res.mk ⟨rfl, e⟩
  | some x =>
    have hx := hb x hdd
    rcases ho with ⟨o1, o2⟩ | ⟨o1, o2⟩
    · by_cases hlt : off < x
      · simp (maxSteps := 1000000) (disch := omega) only [vv_e, mm_e, jn_e, bd_e, bd_i, ld_i, st_i, la_i, sl_i, nI_add, pk_mul, pk_sub, ng_add, neg_neg_n, nlt, nle, neq, ng_lt, gn_lt, gg_lt, ng_le, gn_le, gg_le, ng_eq, gn_eq, gg_eq, dv_i, if_pos, if_neg, ite_tt, ite_ff, if_b2, if_b2n, l_0, l_1, l_2, l_3, l_4, l_5, l_6, l_7, l_8, l_9, l_10, l_11, l_12, l_13, l_16, l_20, l_24, l_30, l_32, l_33, l_38, l_42, l_43, l_45, l_47, l_48, l_50, l_57, l_60, l_61, l_62, l_96, l_97, l_99, l_100, l_102, l_105, l_110, l_121, l_122, l_124, l_128, l_200, l_255, l_270, l_350, l_360, l_400, l_440, l_490, l_500, l_999, l_1000, l_9999, l_10000, l_99999, l_100000, l_1000000, l_1000000001, l_1000000002, l_1000000003, l_1000000005, l_1000000011, l_1000000012, l_1000000013, l_1000000014, e1', orM_s]
        exact Res.mk ⟨rfl, e⟩
      · simp (maxSteps := 1000000) (disch := omega) only [vv_e, mm_e, jn_e, bd_e, bd_i, ld_i, st_i, la_i, sl_i, nI_add, pk_mul, pk_sub, ng_add, neg_neg_n, nlt, nle, neq, ng_lt, gn_lt, gg_lt, ng_le, gn_le, gg_le, ng_eq, gn_eq, gg_eq, dv_i, if_pos, if_neg, ite_tt, ite_ff, if_b2, if_b2n, l_0, l_1, l_2, l_3, l_4, l_5, l_6, l_7, l_8, l_9, l_10, l_11, l_12, l_13, l_16, l_20, l_24, l_30, l_32, l_33, l_38, l_42, l_43, l_45, l_47, l_48, l_50, l_57, l_60, l_61, l_62, l_96, l_97, l_99, l_100, l_102, l_105, l_110, l_121, l_122, l_124, l_128, l_200, l_255, l_270, l_350, l_360, l_400, l_440, l_490, l_500, l_999, l_1000, l_9999, l_10000, l_99999, l_100000, l_1000000, l_1000000001, l_1000000002, l_1000000003, l_1000000005, l_1000000011, l_1000000012, l_1000000013, l_1000000014, e1', orM_s]
        exact Res.mk ⟨rfl, e⟩
    · by_cases hlt : off < x
      · simp (maxSteps := 1000000) (disch := omega) only [vv_e, mm_e, jn_e, bd_e, bd_i, ld_i, st_i, la_i, sl_i, nI_add, pk_mul, pk_sub, ng_add, neg_neg_n, nlt, nle, neq, ng_lt, gn_lt, gg_lt, ng_le, gn_le, gg_le, ng_eq, gn_eq, gg_eq, dv_i, if_pos, if_neg, ite_tt, ite_ff, if_b2, if_b2n, l_0, l_1, l_2, l_3, l_4, l_5, l_6, l_7, l_8, l_9, l_10, l_11, l_12, l_13, l_16, l_20, l_24, l_30, l_32, l_33, l_38, l_42, l_43, l_45, l_47, l_48, l_50, l_57, l_60, l_61, l_62, l_96, l_97, l_99, l_100, l_102, l_105, l_110, l_121, l_122, l_124, l_128, l_200, l_255, l_270, l_350, l_360, l_400, l_440, l_490, l_500, l_999, l_1000, l_9999, l_10000, l_99999, l_100000, l_1000000, l_1000000001, l_1000000002, l_1000000003, l_1000000005, l_1000000011, l_1000000012, l_1000000013, l_1000000014, e1', orM_s, gs_sub]
        exact Res.mk ⟨rfl, e⟩
      · simp (maxSteps := 1000000) (disch := omega) only [vv_e, mm_e, jn_e, bd_e, bd_i, ld_i, st_i, la_i, sl_i, nI_add, pk_mul, pk_sub, ng_add, neg_neg_n, nlt, nle, neq, ng_lt, gn_lt, gg_lt, ng_le, gn_le, gg_le, ng_eq, gn_eq, gg_eq, dv_i, if_pos, if_neg, ite_tt, ite_ff, if_b2, if_b2n, l_0, l_1, l_2, l_3, l_4, l_5, l_6, l_7, l_8, l_9, l_10, l_11, l_12, l_13, l_16, l_20, l_24, l_30, l_32, l_33, l_38, l_42, l_43, l_45, l_47, l_48, l_50, l_57, l_60, l_61, l_62, l_96, l_97, l_99, l_100, l_102, l_105, l_110, l_121, l_122, l_124, l_128, l_200, l_255, l_270, l_350, l_360, l_400, l_440, l_490, l_500, l_999, l_1000, l_9999, l_10000, l_99999, l_100000, l_1000000, l_1000000001, l_1000000002, l_1000000003, l_1000000005, l_1000000011, l_1000000012, l_1000000013, l_1000000014, e1', orM_s, gs_sub]
        exact Res.mk ⟨rfl, e⟩
set_option maxHeartbeats 4000000 in
theorem op_could : ∀ (p q r : Int32) (M N : Mem), Inv M N → Same (f_X9_could 0 p q r M) (f_X10_could 0 p q r N) := by
  intro p q r M N h
  obtain ⟨nT, nF, nX, nC, nE, nL, nS, hS, hT, hF, hX, hL, hC, hR, hD, hN, hO, hZ⟩ := h.st
  obtain ⟨d1, d2, d3, d4⟩ := id hD
  obtain ⟨w, w1, w2, w3⟩ := roads hR
  unfold f_X9_could f_X10_could f_X2_allows
  simp only [vv_e, mm_e, jn_e, bd_e, bd_i, e1_0_0, e1_0_1, e1_0_3, e1_0_4, e1_0_6, e1_0_7, e1_1_0, e1_1_1, e1_1_2, e1_1_3, e1_1_4, e1_1_5, e1_1_9, e1_2_1, e1_2_3, e1_2_4, e1_2_5, e1_2_6, e1_2_7, e1_9_1, e1_9_2, e1_9_3, e1_9_4, e1_9_5, e1_9_6, e1_16_0, e1_16_1, e1_19_0, e1_19_2, e1_19_3, e1_19_4, e1_24_1, e1_24_2, e1_24_3, e1_24_5, e1_61_0, e1_61_6, e2_0_0, e2_0_1, e2_0_2, e2_0_4, e2_0_5, e2_0_6, e2_0_7, e2_0_8, e2_0_9, e2_0_10, e2_0_11, e2_0_12, e2_0_24, e2_0_25, e2_0_28, e2_0_29, e2_0_30, e2_0_34, e2_0_35, e2_0_36, e2_0_38, s_isPlace, y_isPlace, s_within, if_b2, s_isInL q 0 9999 0 9999 N rfl rfl, s_isInL r 1 99 1 99 N rfl rfl]
  by_cases hp : 0 ≤ p ∧ p ≤ 5
  case neg =>
    rw [if_neg hp, if_neg hp]
    exact Same.mk h
  rw [if_pos hp, if_pos hp]
  by_cases hq : 0 ≤ q ∧ q ≤ 9999
  case neg =>
    rw [if_neg hq, if_neg hq]
    exact Same.mk h
  rw [if_pos hq, if_pos hq]
  by_cases hr : 1 ≤ r ∧ r ≤ 99
  case neg =>
    rw [if_neg hr, if_neg hr]
    exact Same.mk h
  rw [if_pos hr, if_pos hr]
  obtain ⟨pl, hpl, rfl⟩ := rgN (c := 5) (by decide) hp
  obtain ⟨df, hdf, rfl⟩ := rgN (c := 9999) (by decide) hq
  obtain ⟨rn, hrn, rfl⟩ := rgN (p := r) (c := 99) (by decide) ⟨Int32.le_trans (by decide) hr.1, hr.2⟩
  have hrn1 : 1 ≤ rn := (nI_leI (a := 1) (by decide) (by omega)).mp hr.1
  have el : nI df + nI rn - 1 = nI (df + rn - 1) := by
    rw [nI_add]
    exact pk_sub (b := 1) (by omega)
  simp only [el]
  generalize hla : df + rn - 1 = la
  have hday : ∀ i, ∃ u : Nat × Nat, i < nE → u.1 < 10000 ∧ u.2 < 6 ∧ M 21 i = nI u.1 ∧ M 22 i = nI u.2 ∧ N 1 (400 + 2 * i) = nI u.1 ∧ N 1 (400 + 2 * i + 1) = nI u.2 := fun i => by
    by_cases hi : i < nE
    · obtain ⟨c1, c2, ⟨u, hu, eu⟩, ⟨v, hv, evv⟩⟩ := d4 i hi
      exact ⟨(u, v), fun _ => ⟨hu, hv, eu, evv, c1.trans eu, by rw [show 400 + 2 * i + 1 = 401 + 2 * i by omega]; exact c2.trans evv⟩⟩
    · exact ⟨(0, 0), fun z => absurd z hi⟩
  obtain ⟨U, hU⟩ := Classical.axiomOfChoice hday
  sorry
