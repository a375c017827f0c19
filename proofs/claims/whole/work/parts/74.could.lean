def Wk (w : Nat → Nat → Nat) (a b L : Nat) : Prop := ∀ P : Nat → Nat → Nat → Prop, (∀ x, x < 6 → P x x 0) → (∀ x y z L, y < 6 → z < 6 → P x y L → 0 < w y z → P x z (L + w y z)) → P a b L
theorem Wk.rf {w : Nat → Nat → Nat} {a : Nat} (h : a < 6) : Wk w a a 0 := fun _ h1 _ => h1 a h
theorem Wk.st {w : Nat → Nat → Nat} {a b c L : Nat} (h : Wk w a b L) (hb : b < 6) (hc : c < 6) (hp : 0 < w b c) : Wk w a c (L + w b c) := fun P h1 h2 => h2 a b c L hb hc (h P h1 h2) hp
theorem Wk.pre {w : Nat → Nat → Nat} {a b L : Nat} (h : Wk w a b L) : a < 6 → ∀ z, z < 6 → 0 < w z a → Wk w z b (w z a + L) := by
  refine h (fun a b L => a < 6 → ∀ z, z < 6 → 0 < w z a → Wk w z b (w z a + L)) ?_ ?_
  · intro x hx _ z hz hp
    have := (Wk.rf (w := w) hz).st hz hx hp
    rw [Nat.zero_add] at this
    exact this
  · intro x y z L hy hz ih hp hx v hv hpv
    have := (ih hx v hv hpv).st hy hz hp
    rw [Nat.add_assoc] at this
    exact this
theorem Wk.rev {w : Nat → Nat → Nat} {a b L : Nat} (hs : ∀ a b, a < 6 → b < 6 → w a b = w b a) (h : Wk w a b L) : b < 6 → Wk w b a L := by
  refine h (fun a b L => b < 6 → Wk w b a L) ?_ ?_
  · intro x hx _
    exact Wk.rf hx
  · intro x y z L hy hz ih hp _
    have := (ih hy).pre hy z hz (by rw [hs z y hz hy]; exact hp)
    rw [hs z y hz hy, Nat.add_comm] at this
    exact this
def WD (w : Nat → Nat → Nat) (s : Nat) (d : Nat → Option Nat) : Prop := ∀ c x, c < 6 → d c = some x → Wk w s c x
theorem WD.rlx {w : Nat → Nat → Nat} {s a b : Nat} {d : Nat → Option Nat} (h : WD w s d) (ha : a < 6) (hb : b < 6) : WD w s (rlx w a b d) := by
  intro c x hc hx
  by_cases e : c = b
  · subst e
    rcases rlx_cases w a c d with ⟨e1, -⟩ | ⟨y, e1, e2, e3, -⟩
    · rw [e1] at hx; exact h c x hc hx
    · rw [e3] at hx
      cases hx
      exact (h a y ha e1).st ha hc e2
  · rw [rlx_o e] at hx
    exact h c x hc hx
theorem WD.row {w : Nat → Nat → Nat} {s a : Nat} {d : Nat → Option Nat} (h : WD w s d) (ha : a < 6) : ∀ n, n ≤ 6 → WD w s (rowN w a d n)
  | 0, _ => h
  | n + 1, hn => (WD.row h ha n (by omega)).rlx ha (by omega)
theorem WD.rnd {w : Nat → Nat → Nat} {s : Nat} {d : Nat → Option Nat} (h : WD w s d) : ∀ n, n ≤ 6 → WD w s (rndN w d n)
  | 0, _ => h
  | n + 1, hn => (WD.rnd h n (by omega)).row (by omega) 6 (Nat.le_refl _)
theorem WD.all {w : Nat → Nat → Nat} {s : Nat} (hs : s < 6) : ∀ k, WD w s (allN w s k)
  | 0 => by
    intro c x hc hx
    unfold allN at hx
    by_cases e : c = s
    · rw [if_pos e] at hx
      cases hx
      rw [e]
      exact Wk.rf hs
    · rw [if_neg e] at hx; cases hx
  | k + 1 => (WD.all hs k).rnd 6 (Nat.le_refl _)
theorem row_le {w : Nat → Nat → Nat} {a : Nat} {d : Nat → Option Nat} (c : Nat) : ∀ n, ole (rowN w a d n c) (d c)
  | 0 => ole.rf _
  | n + 1 => (rlx_le _ _ _ _ _).tr (row_le c n)
theorem rnd_le {w : Nat → Nat → Nat} {d : Nat → Option Nat} (c : Nat) : ∀ n, ole (rndN w d n c) (d c)
  | 0 => ole.rf _
  | n + 1 => (row_le c 6).tr (rnd_le c n)
theorem all_s {w : Nat → Nat → Nat} {s : Nat} : ∀ k, ole (allN w s k s) (some 0)
  | 0 => by unfold allN; rw [if_pos rfl]; exact Nat.le_refl 0
  | k + 1 => (rnd_le s 6).tr (all_s k)
theorem dd_wk {w : Nat → Nat → Nat} {s t L : Nat} (hs : s < 6) (h : Wk w s t L) : ole (dd w s t) (some L) := by
  have st := (stable (w := w) hs).2
  have key := h (fun x y L => x < 6 → ∀ u, ole (allN w s 5 x) (some u) → ole (allN w s 5 y) (some (u + L))) (fun x hx _ u hu => hu) (fun x y z L hy hz ih hp hx u hu => by
    have q := ih hx u hu
    cases e : allN w s 5 y with
    | none => rw [e] at q; exact q.elim
    | some v =>
      rw [e] at q
      have q' : v ≤ u + L := q
      refine (st y z v hy hz e hp).tr ?_
      show v + w y z ≤ u + (L + w y z)
      omega) hs 0 (all_s 5)
  rw [Nat.zero_add] at key
  exact key
theorem dd_sym {w : Nat → Nat → Nat} (hw : ∀ a b, a < 6 → b < 6 → w a b = w b a) {s t : Nat} (hs : s < 6) (ht : t < 6) : dd w s t = dd w t s := by
  have half : ∀ s t, s < 6 → t < 6 → ole (dd w t s) (dd w s t) := fun s t hs ht => by
    cases e : dd w s t with
    | none => exact ole.nn
    | some x => exact dd_wk ht ((WD.all hs 5 t x ht e).rev hw ht)
  have h1 := half s t hs ht
  have h2 := half t s ht hs
  cases e1 : dd w s t with
  | none =>
    cases e2 : dd w t s with
    | none => rfl
    | some y => rw [e1, e2] at h2; exact h2.elim
  | some x =>
    cases e2 : dd w t s with
    | none => rw [e1, e2] at h1; exact h1.elim
    | some y =>
      rw [e1, e2] at h1 h2
      have a1 : y ≤ x := h1
      have a2 : x ≤ y := h2
      rw [show x = y by omega]
def cg (o : Option Nat) (u : Nat) : Int32 := match o with
  | none => nI 0
  | some x => if u < x then nI 0 else nI 1
theorem cg_01 (o : Option Nat) (u : Nat) : cg o u = nI 0 ∨ cg o u = nI 1 := by
  unfold cg
  cases o with
  | none => exact Or.inl rfl
  | some x =>
    dsimp only
    split
    · exact Or.inl rfl
    · exact Or.inr rfl
theorem dd_b {w : Nat → Nat → Nat} {s t x : Nat} (hw : ∀ a b, a < 6 → b < 6 → w a b ≤ 30) (h : dd w s t = some x) : x ≤ 5400 := by
  have := allN_bnd (s := s) hw 5 t x h
  omega
theorem x_canGo {w : Nat → Nat → Nat} {M : Mem} {s t u : Nat} (hs : s < 6) (ht : t < 6) (hu : u < 20000) (hr : ∀ a b, a < 6 → b < 6 → w a b ≤ 30 ∧ M 20 (a * 6 + b) = nI (w a b)) : OkC M (cg (dd w s t) u) (f_X2_canGo 19 (nI s) (nI t) (nI u) M) := by
  unfold f_X2_canGo
  refine OkC.then (x_least hs ht hr) (fun M' e => ?_)
  have hb := fun x => dd_b (s := s) (t := t) (x := x) (fun a b ha hb => (hr a b ha hb).1)
  unfold cg
  cases hd : dd w s t with
  | none =>
    rw [if_pos orN_n]
    exact Res.mk ⟨rfl, e⟩
  | some x =>
    have hx := hb x hd
    rw [orN_s]
    by_cases hlt : u < x
    · simp (maxSteps := 1000000) (disch := omega) only [ld_i, st_i, la_i, sl_i, nI_add, pk_mul, pk_sub, ng_add, neg_neg_n, nlt, nle, neq, ng_lt, gn_lt, gg_lt, ng_le, gn_le, gg_le, ng_eq, gn_eq, gg_eq, dv_i, if_pos, if_neg, ite_tt, ite_ff, if_b2, if_b2n, l_0, l_1, l_2, l_3, l_4, l_5, l_6, l_7, l_8, l_9, l_10, l_11, l_12, l_13, l_16, l_20, l_24, l_30, l_32, l_33, l_38, l_42, l_43, l_45, l_47, l_48, l_50, l_57, l_60, l_61, l_62, l_96, l_97, l_99, l_100, l_102, l_105, l_110, l_121, l_122, l_124, l_128, l_200, l_255, l_270, l_350, l_360, l_400, l_440, l_490, l_500, l_999, l_1000, l_9999, l_10000, l_99999, l_100000, l_1000000, l_1000000001, l_1000000002, l_1000000003, l_1000000005, l_1000000011, l_1000000012, l_1000000013, l_1000000014]
      exact Res.mk ⟨rfl, e⟩
    · simp (maxSteps := 1000000) (disch := omega) only [ld_i, st_i, la_i, sl_i, nI_add, pk_mul, pk_sub, ng_add, neg_neg_n, nlt, nle, neq, ng_lt, gn_lt, gg_lt, ng_le, gn_le, gg_le, ng_eq, gn_eq, gg_eq, dv_i, if_pos, if_neg, ite_tt, ite_ff, if_b2, if_b2n, l_0, l_1, l_2, l_3, l_4, l_5, l_6, l_7, l_8, l_9, l_10, l_11, l_12, l_13, l_16, l_20, l_24, l_30, l_32, l_33, l_38, l_42, l_43, l_45, l_47, l_48, l_50, l_57, l_60, l_61, l_62, l_96, l_97, l_99, l_100, l_102, l_105, l_110, l_121, l_122, l_124, l_128, l_200, l_255, l_270, l_350, l_360, l_400, l_440, l_490, l_500, l_999, l_1000, l_9999, l_10000, l_99999, l_100000, l_1000000, l_1000000001, l_1000000002, l_1000000003, l_1000000005, l_1000000011, l_1000000012, l_1000000013, l_1000000014]
      exact Res.mk ⟨rfl, e⟩
theorem y_near {w : Nat → Nat → Nat} {N : Mem} {i p v u dA off : Nat} (hi : i < 20) (hp : p < 6) (hv : v < 6) (hu : u < 10000) (hd : dA < 20000) (ho : (u ≤ dA ∧ off = dA - u) ∨ (dA < u ∧ off = u - dA)) (e1 : N 1 (400 + 2 * i) = nI u) (e2 : N 1 (400 + 2 * i + 1) = nI v) (hr : ∀ a b, a < 6 → b < 6 → w a b ≤ 30 ∧ N 1 (360 + 6 * a + b) = nI (w a b)) : OkM N (cg (dd w p v) off) (f_X10_isNear 0 (nI i) (nI p) (nI dA) N) := by
  unfold f_X10_isNear
  simp (maxSteps := 1000000) (disch := omega) only [vv_e, mm_e, jn_e, bd_e, bd_i, e2_0_0, e2_0_1, e2_0_2, e2_0_4, e2_0_5, e2_0_6, e2_0_7, e2_0_8, e2_0_9, e2_0_10, e2_0_11, e2_0_12, e2_0_24, e2_0_25, e2_0_28, e2_0_29, e2_0_30, e2_0_34, e2_0_35, e2_0_36, e2_0_38, ld_i, st_i, la_i, sl_i, nI_add, pk_mul, pk_sub, ng_add, neg_neg_n, nlt, nle, neq, ng_lt, gn_lt, gg_lt, ng_le, gn_le, gg_le, ng_eq, gn_eq, gg_eq, dv_i, if_pos, if_neg, ite_tt, ite_ff, if_b2, if_b2n, l_0, l_1, l_2, l_3, l_4, l_5, l_6, l_7, l_8, l_9, l_10, l_11, l_12, l_13, l_16, l_20, l_24, l_30, l_32, l_33, l_38, l_42, l_43, l_45, l_47, l_48, l_50, l_57, l_60, l_61, l_62, l_96, l_97, l_99, l_100, l_102, l_105, l_110, l_121, l_122, l_124, l_128, l_200, l_255, l_270, l_350, l_360, l_400, l_440, l_490, l_500, l_999, l_1000, l_9999, l_10000, l_99999, l_100000, l_1000000, l_1000000001, l_1000000002, l_1000000003, l_1000000005, l_1000000011, l_1000000012, l_1000000013, l_1000000014, e2]
  refine OkM.then (y_days hp hv hr) (fun N' e => ?_)
  have hb := fun x => dd_b (s := p) (t := v) (x := x) (fun a b ha hb => (hr a b ha hb).1)
  have e1' : N' 1 (400 + 2 * i) = nI u := by rw [e.1 1 (by omega)]; exact e1
  unfold cg
  cases hdd : dd w p v with
  | none =>
    simp (maxSteps := 1000000) (disch := omega) only [vv_e, mm_e, jn_e, bd_e, bd_i, ld_i, st_i, la_i, sl_i, nI_add, pk_mul, pk_sub, ng_add, neg_neg_n, nlt, nle, neq, ng_lt, gn_lt, gg_lt, ng_le, gn_le, gg_le, ng_eq, gn_eq, gg_eq, dv_i, if_pos, if_neg, ite_tt, ite_ff, if_b2, if_b2n, l_0, l_1, l_2, l_3, l_4, l_5, l_6, l_7, l_8, l_9, l_10, l_11, l_12, l_13, l_16, l_20, l_24, l_30, l_32, l_33, l_38, l_42, l_43, l_45, l_47, l_48, l_50, l_57, l_60, l_61, l_62, l_96, l_97, l_99, l_100, l_102, l_105, l_110, l_121, l_122, l_124, l_128, l_200, l_255, l_270, l_350, l_360, l_400, l_440, l_490, l_500, l_999, l_1000, l_9999, l_10000, l_99999, l_100000, l_1000000, l_1000000001, l_1000000002, l_1000000003, l_1000000005, l_1000000011, l_1000000012, l_1000000013, l_1000000014, e1', orM_n']
    exact Res.mk ⟨rfl, e⟩
  | some x =>
    have hx := hb x hdd
    rcases ho with ⟨o1, o2⟩ | ⟨o1, o2⟩
    · by_cases hlt : off < x
      · simp (maxSteps := 1000000) (disch := omega) only [vv_e, mm_e, jn_e, bd_e, bd_i, ld_i, st_i, la_i, sl_i, nI_add, pk_mul, pk_sub, ng_add, neg_neg_n, nlt, nle, neq, ng_lt, gn_lt, gg_lt, ng_le, gn_le, gg_le, ng_eq, gn_eq, gg_eq, dv_i, if_pos, if_neg, ite_tt, ite_ff, if_b2, if_b2n, l_0, l_1, l_2, l_3, l_4, l_5, l_6, l_7, l_8, l_9, l_10, l_11, l_12, l_13, l_16, l_20, l_24, l_30, l_32, l_33, l_38, l_42, l_43, l_45, l_47, l_48, l_50, l_57, l_60, l_61, l_62, l_96, l_97, l_99, l_100, l_102, l_105, l_110, l_121, l_122, l_124, l_128, l_200, l_255, l_270, l_350, l_360, l_400, l_440, l_490, l_500, l_999, l_1000, l_9999, l_10000, l_99999, l_100000, l_1000000, l_1000000001, l_1000000002, l_1000000003, l_1000000005, l_1000000011, l_1000000012, l_1000000013, l_1000000014, e1', orM_s]
        exact Res.mk ⟨rfl, e⟩
      · simp (maxSteps := 1000000) (disch := omega) only [vv_e, mm_e, jn_e, bd_e, bd_i, ld_i, st_i, la_i, sl_i, nI_add, pk_mul, pk_sub, ng_add, neg_neg_n, nlt, nle, neq, ng_lt, gn_lt, gg_lt, ng_le, gn_le, gg_le, ng_eq, gn_eq, gg_eq, dv_i, if_pos, if_neg, ite_tt, ite_ff, if_b2, if_b2n, l_0, l_1, l_2, l_3, l_4, l_5, l_6, l_7, l_8, l_9, l_10, l_11, l_12, l_13, l_16, l_20, l_24, l_30, l_32, l_33, l_38, l_42, l_43, l_45, l_47, l_48, l_50, l_57, l_60, l_61, l_62, l_96, l_97, l_99, l_100, l_102, l_105, l_110, l_121, l_122, l_124, l_128, l_200, l_255, l_270, l_350, l_360, l_400, l_440, l_490, l_500, l_999, l_1000, l_9999, l_10000, l_99999, l_100000, l_1000000, l_1000000001, l_1000000002, l_1000000003, l_1000000005, l_1000000011, l_1000000012, l_1000000013, l_1000000014, e1', orM_s]
        exact Res.mk ⟨rfl, e⟩
    · by_cases hlt : off < x
      · simp (maxSteps := 1000000) (disch := omega) only [vv_e, mm_e, jn_e, bd_e, bd_i, ld_i, st_i, la_i, sl_i, nI_add, pk_mul, pk_sub, ng_add, neg_neg_n, nlt, nle, neq, ng_lt, gn_lt, gg_lt, ng_le, gn_le, gg_le, ng_eq, gn_eq, gg_eq, dv_i, if_pos, if_neg, ite_tt, ite_ff, if_b2, if_b2n, l_0, l_1, l_2, l_3, l_4, l_5, l_6, l_7, l_8, l_9, l_10, l_11, l_12, l_13, l_16, l_20, l_24, l_30, l_32, l_33, l_38, l_42, l_43, l_45, l_47, l_48, l_50, l_57, l_60, l_61, l_62, l_96, l_97, l_99, l_100, l_102, l_105, l_110, l_121, l_122, l_124, l_128, l_200, l_255, l_270, l_350, l_360, l_400, l_440, l_490, l_500, l_999, l_1000, l_9999, l_10000, l_99999, l_100000, l_1000000, l_1000000001, l_1000000002, l_1000000003, l_1000000005, l_1000000011, l_1000000012, l_1000000013, l_1000000014, e1', orM_s, gs_sub]
        exact Res.mk ⟨rfl, e⟩
      · simp (maxSteps := 1000000) (disch := omega) only [vv_e, mm_e, jn_e, bd_e, bd_i, ld_i, st_i, la_i, sl_i, nI_add, pk_mul, pk_sub, ng_add, neg_neg_n, nlt, nle, neq, ng_lt, gn_lt, gg_lt, ng_le, gn_le, gg_le, ng_eq, gn_eq, gg_eq, dv_i, if_pos, if_neg, ite_tt, ite_ff, if_b2, if_b2n, l_0, l_1, l_2, l_3, l_4, l_5, l_6, l_7, l_8, l_9, l_10, l_11, l_12, l_13, l_16, l_20, l_24, l_30, l_32, l_33, l_38, l_42, l_43, l_45, l_47, l_48, l_50, l_57, l_60, l_61, l_62, l_96, l_97, l_99, l_100, l_102, l_105, l_110, l_121, l_122, l_124, l_128, l_200, l_255, l_270, l_350, l_360, l_400, l_440, l_490, l_500, l_999, l_1000, l_9999, l_10000, l_99999, l_100000, l_1000000, l_1000000001, l_1000000002, l_1000000003, l_1000000005, l_1000000011, l_1000000012, l_1000000013, l_1000000014, e1', orM_s, gs_sub]
        exact Res.mk ⟨rfl, e⟩
theorem y_near_n (p d : Int32) (N : Mem) : f_X10_isNear 0 (-nI 1) p d N = some (nI 1, N) := by
  unfold f_X10_isNear
  rw [if_pos (show -nI 1 < 0 by decide)]
  rfl
set_option maxHeartbeats 40000000 in
theorem op_could : ∀ (p q r : Int32) (M N : Mem), Inv M N → Same (f_X9_could 0 p q r M) (f_X10_could 0 p q r N) := by
  intro p q r M N h
  obtain ⟨nT, nF, nX, nC, nE, nL, nS, hS, hT, hF, hX, hL, hC, hR, hD, hN, hO, hZ⟩ := h.st
  obtain ⟨d1, d2, d3, d4⟩ := id hD
  obtain ⟨w, w1, w2, w3⟩ := roads hR
  unfold f_X9_could f_X10_could f_X2_allows
  simp only [vv_e, bd_e, e1_0_0, e1_0_1, e1_0_3, e1_0_4, e1_0_6, e1_0_7, e1_1_0, e1_1_1, e1_1_2, e1_1_3, e1_1_4, e1_1_5, e1_1_9, e1_2_1, e1_2_3, e1_2_4, e1_2_5, e1_2_6, e1_2_7, e1_9_1, e1_9_2, e1_9_3, e1_9_4, e1_9_5, e1_9_6, e1_16_0, e1_16_1, e1_19_0, e1_19_2, e1_19_3, e1_19_4, e1_24_1, e1_24_2, e1_24_3, e1_24_5, e1_61_0, e1_61_6, e2_0_0, e2_0_1, e2_0_2, e2_0_4, e2_0_5, e2_0_6, e2_0_7, e2_0_8, e2_0_9, e2_0_10, e2_0_11, e2_0_12, e2_0_24, e2_0_25, e2_0_28, e2_0_29, e2_0_30, e2_0_34, e2_0_35, e2_0_36, e2_0_38, s_isPlace, y_isPlace, s_within, if_b2, s_isInL q 0 9999 0 9999 N rfl rfl, s_isInL r 1 99 1 99 N rfl rfl]
  by_cases hp : 0 ≤ p ∧ p ≤ 5
  case neg =>
    rw [if_neg hp, if_neg hp]
    exact Same.mk h
  rw [if_pos hp, if_pos hp]
  by_cases hq : 0 ≤ q ∧ q ≤ 9999
  case neg =>
    rw [if_neg hq, if_neg hq]
    exact Same.mk h
  rw [if_pos hq, if_pos hq]
  by_cases hr : 1 ≤ r ∧ r ≤ 99
  case neg =>
    rw [if_neg hr, if_neg hr]
    exact Same.mk h
  rw [if_pos hr, if_pos hr]
  obtain ⟨pl, hpl, rfl⟩ := rgN (c := 5) (by decide) hp
  obtain ⟨df, hdf, rfl⟩ := rgN (c := 9999) (by decide) hq
  obtain ⟨rn, hrn, rfl⟩ := rgN (p := r) (c := 99) (by decide) ⟨Int32.le_trans (by decide) hr.1, hr.2⟩
  have hrn1 : 1 ≤ rn := (nI_leI (a := 1) (by decide) (by omega)).mp hr.1
  have el : nI df + nI rn - 1 = nI (df + rn - 1) := by
    rw [nI_add]
    exact pk_sub (b := 1) (by omega)
  simp only [el]
  generalize hla : df + rn - 1 = la
  have hday : ∀ i, ∃ u : Nat × Nat, i < nE → u.1 < 10000 ∧ u.2 < 6 ∧ M 21 i = nI u.1 ∧ M 22 i = nI u.2 ∧ N 1 (400 + 2 * i) = nI u.1 ∧ N 1 (400 + 2 * i + 1) = nI u.2 := fun i => by
    by_cases hi : i < nE
    · obtain ⟨c1, c2, ⟨u, hu, eu⟩, ⟨v, hv, evv⟩⟩ := d4 i hi
      exact ⟨(u, v), fun _ => ⟨hu, hv, eu, evv, c1.trans eu, by rw [show 400 + 2 * i + 1 = 401 + 2 * i by omega]; exact c2.trans evv⟩⟩
    · exact ⟨(0, 0), fun z => absurd z hi⟩
  obtain ⟨U, hU⟩ := Classical.axiomOfChoice hday
  have fin : ∀ x y, R2 (fun r M' N' => (r = nI 0 ∨ r = nI 1) ∧ Inv M' N') x y → Same (bd x fun x6 M => if x6 = 0 then some (0, M) else some (1, M)) y := fun x y ⟨r, M', N', e1, e2, e3, e4⟩ => by
    rw [e1, e2, bd_e]
    rcases e3 with rfl | rfl
    · rw [if_pos (show nI 0 = 0 from rfl)]; exact ⟨_, M', N', rfl, rfl, e4⟩
    · rw [if_neg (show ¬ nI 1 = 0 by decide)]; exact ⟨_, M', N', rfl, rfl, e4⟩
  apply fin
  refine lr33 (fun n v1 v2 v3 M' x1 x2 x3 N' => ∃ k, k + n = nE ∧ v3 = nI k ∧ x3 = nI k ∧ x1 = v1 ∧ x2 = v2 ∧ M' = M ∧ N' = N ∧ (v1 = -nI 1 ∨ ∃ i, i < nE ∧ v1 = nI i ∧ (U i).1 ≤ df) ∧ (v2 = -nI 1 ∨ ∃ i, i < nE ∧ v2 = nI i ∧ la < (U i).1)) ?_ fuel fuel nE _ _ _ M _ _ _ N (by show nE < 5000; omega) (by show nE < 5000; omega) ⟨0, by omega, rfl, rfl, rfl, rfl, rfl, rfl, Or.inl rfl, Or.inl rfl⟩
  rintro n rc rd v1 v2 v3 M' x1 x2 x3 N' ⟨k, hk, rfl, rfl, rfl, rfl, hM, hN', hv1, hv2⟩ ih
  rw [hM, hN', d1, ld_4, d2]
  by_cases hkE : k = nE
  case neg =>
    rw [if_pos (nI_lt (show k < nE by omega) (by omega)), if_pos (nI_lt (show k < nE by omega) (by omega))]
    obtain ⟨u1, u2, u3, u4, u5, u6⟩ := hU k (by omega)
    have go : ∀ a b, (a = -nI 1 ∨ ∃ i, i < nE ∧ a = nI i ∧ (U i).1 ≤ df) → (b = -nI 1 ∨ ∃ i, i < nE ∧ b = nI i ∧ la < (U i).1) → R2 (fun r M' N' => (r = nI 0 ∨ r = nI 1) ∧ Inv M' N') (rc a b (nI (k + 1)) M) (rd a b (nI (k + 1)) N) := fun a b ha hb => ih (n - 1) _ _ _ _ _ _ _ _ (by omega) ⟨k + 1, by omega, rfl, rfl, rfl, rfl, rfl, rfl, ha, hb⟩
    rcases hv1 with rfl | ⟨i, hi, rfl, hui⟩ <;> rcases hv2 with rfl | ⟨i2, hi2, rfl, hui2⟩
    · skip
      by_cases c3 : la < (U k).1
      · have c1 : df < (U k).1 := by omega
        have c2 : ¬ (U k).1 < df := by omega
        simp (maxSteps := 1000000) (disch := omega) only [jn_e, vv_e, bd_e, ld_i, nI_add, pk_mul, nlt, neq, gn_lt, ite_tt, ite_ff, l_0, l_1, l_2, l_3, l_4, l_5, l_6, l_7, l_8, l_9, l_10, l_11, l_12, l_13, l_16, l_20, l_24, l_30, l_32, l_33, l_38, l_42, l_43, l_45, l_47, l_48, l_50, l_57, l_60, l_61, l_62, l_96, l_97, l_99, l_100, l_102, l_105, l_110, l_121, l_122, l_124, l_128, l_200, l_255, l_270, l_350, l_360, l_400, l_440, l_490, l_500, l_999, l_1000, l_9999, l_10000, l_99999, l_100000, l_1000000, l_1000000001, l_1000000002, l_1000000003, l_1000000005, l_1000000011, l_1000000012, l_1000000013, l_1000000014, u3, u4, u5, u6, c1, c2, c3, show (0 < 1 + 0) = True from eq_true (by decide)]
        exact go _ _ (by (first | exact Or.inl rfl | exact Or.inr ⟨_, by omega, rfl, by omega⟩)) (by (first | exact Or.inl rfl | exact Or.inr ⟨_, by omega, rfl, by omega⟩))
      by_cases c1 : df < (U k).1
      · have c2 : ¬ (U k).1 < df := by omega
        by_cases c4 : (U k).2 = pl
        · simp (maxSteps := 1000000) (disch := omega) only [jn_e, vv_e, bd_e, ld_i, nI_add, pk_mul, nlt, neq, gn_lt, ite_tt, ite_ff, l_0, l_1, l_2, l_3, l_4, l_5, l_6, l_7, l_8, l_9, l_10, l_11, l_12, l_13, l_16, l_20, l_24, l_30, l_32, l_33, l_38, l_42, l_43, l_45, l_47, l_48, l_50, l_57, l_60, l_61, l_62, l_96, l_97, l_99, l_100, l_102, l_105, l_110, l_121, l_122, l_124, l_128, l_200, l_255, l_270, l_350, l_360, l_400, l_440, l_490, l_500, l_999, l_1000, l_9999, l_10000, l_99999, l_100000, l_1000000, l_1000000001, l_1000000002, l_1000000003, l_1000000005, l_1000000011, l_1000000012, l_1000000013, l_1000000014, u3, u4, u5, u6, c1, c2, c3, c4, show (0 < 1 + 0) = True from eq_true (by decide)]
          exact go _ _ (by (first | exact Or.inl rfl | exact Or.inr ⟨_, by omega, rfl, by omega⟩)) (by (first | exact Or.inl rfl | exact Or.inr ⟨_, by omega, rfl, by omega⟩))
        · simp (maxSteps := 1000000) (disch := omega) only [jn_e, vv_e, bd_e, ld_i, nI_add, pk_mul, nlt, neq, gn_lt, ite_tt, ite_ff, l_0, l_1, l_2, l_3, l_4, l_5, l_6, l_7, l_8, l_9, l_10, l_11, l_12, l_13, l_16, l_20, l_24, l_30, l_32, l_33, l_38, l_42, l_43, l_45, l_47, l_48, l_50, l_57, l_60, l_61, l_62, l_96, l_97, l_99, l_100, l_102, l_105, l_110, l_121, l_122, l_124, l_128, l_200, l_255, l_270, l_350, l_360, l_400, l_440, l_490, l_500, l_999, l_1000, l_9999, l_10000, l_99999, l_100000, l_1000000, l_1000000001, l_1000000002, l_1000000003, l_1000000005, l_1000000011, l_1000000012, l_1000000013, l_1000000014, u3, u4, u5, u6, c1, c2, c3, c4, show (0 < 1 + 0) = True from eq_true (by decide)]
          exact R2.mk ⟨Or.inl rfl, h⟩
      by_cases c2 : (U k).1 < df
      · skip
        simp (maxSteps := 1000000) (disch := omega) only [jn_e, vv_e, bd_e, ld_i, nI_add, pk_mul, nlt, neq, gn_lt, ite_tt, ite_ff, l_0, l_1, l_2, l_3, l_4, l_5, l_6, l_7, l_8, l_9, l_10, l_11, l_12, l_13, l_16, l_20, l_24, l_30, l_32, l_33, l_38, l_42, l_43, l_45, l_47, l_48, l_50, l_57, l_60, l_61, l_62, l_96, l_97, l_99, l_100, l_102, l_105, l_110, l_121, l_122, l_124, l_128, l_200, l_255, l_270, l_350, l_360, l_400, l_440, l_490, l_500, l_999, l_1000, l_9999, l_10000, l_99999, l_100000, l_1000000, l_1000000001, l_1000000002, l_1000000003, l_1000000005, l_1000000011, l_1000000012, l_1000000013, l_1000000014, u3, u4, u5, u6, c1, c2, c3, show (0 < 1 + 0) = True from eq_true (by decide)]
        exact go _ _ (by (first | exact Or.inl rfl | exact Or.inr ⟨_, by omega, rfl, by omega⟩)) (by (first | exact Or.inl rfl | exact Or.inr ⟨_, by omega, rfl, by omega⟩))
      by_cases c4 : (U k).2 = pl
      · skip
        simp (maxSteps := 1000000) (disch := omega) only [jn_e, vv_e, bd_e, ld_i, nI_add, pk_mul, nlt, neq, gn_lt, ite_tt, ite_ff, l_0, l_1, l_2, l_3, l_4, l_5, l_6, l_7, l_8, l_9, l_10, l_11, l_12, l_13, l_16, l_20, l_24, l_30, l_32, l_33, l_38, l_42, l_43, l_45, l_47, l_48, l_50, l_57, l_60, l_61, l_62, l_96, l_97, l_99, l_100, l_102, l_105, l_110, l_121, l_122, l_124, l_128, l_200, l_255, l_270, l_350, l_360, l_400, l_440, l_490, l_500, l_999, l_1000, l_9999, l_10000, l_99999, l_100000, l_1000000, l_1000000001, l_1000000002, l_1000000003, l_1000000005, l_1000000011, l_1000000012, l_1000000013, l_1000000014, u3, u4, u5, u6, c1, c2, c3, c4, show (0 < 1 + 0) = True from eq_true (by decide)]
        exact go _ _ (by (first | exact Or.inl rfl | exact Or.inr ⟨_, by omega, rfl, by omega⟩)) (by (first | exact Or.inl rfl | exact Or.inr ⟨_, by omega, rfl, by omega⟩))
      · skip
        simp (maxSteps := 1000000) (disch := omega) only [jn_e, vv_e, bd_e, ld_i, nI_add, pk_mul, nlt, neq, gn_lt, ite_tt, ite_ff, l_0, l_1, l_2, l_3, l_4, l_5, l_6, l_7, l_8, l_9, l_10, l_11, l_12, l_13, l_16, l_20, l_24, l_30, l_32, l_33, l_38, l_42, l_43, l_45, l_47, l_48, l_50, l_57, l_60, l_61, l_62, l_96, l_97, l_99, l_100, l_102, l_105, l_110, l_121, l_122, l_124, l_128, l_200, l_255, l_270, l_350, l_360, l_400, l_440, l_490, l_500, l_999, l_1000, l_9999, l_10000, l_99999, l_100000, l_1000000, l_1000000001, l_1000000002, l_1000000003, l_1000000005, l_1000000011, l_1000000012, l_1000000013, l_1000000014, u3, u4, u5, u6, c1, c2, c3, c4, show (0 < 1 + 0) = True from eq_true (by decide)]
        exact R2.mk ⟨Or.inl rfl, h⟩
    · skip
      obtain ⟨z1, z2, z3, z4, z5, z6⟩ := hU i2 hi2
      by_cases c3 : la < (U k).1
      · have c1 : df < (U k).1 := by omega
        have c2 : ¬ (U k).1 < df := by omega
        by_cases c6 : (U k).1 < (U i2).1
        · simp (maxSteps := 1000000) (disch := omega) only [jn_e, vv_e, bd_e, ld_i, nI_add, pk_mul, nlt, neq, gn_lt, ite_tt, ite_ff, l_0, l_1, l_2, l_3, l_4, l_5, l_6, l_7, l_8, l_9, l_10, l_11, l_12, l_13, l_16, l_20, l_24, l_30, l_32, l_33, l_38, l_42, l_43, l_45, l_47, l_48, l_50, l_57, l_60, l_61, l_62, l_96, l_97, l_99, l_100, l_102, l_105, l_110, l_121, l_122, l_124, l_128, l_200, l_255, l_270, l_350, l_360, l_400, l_440, l_490, l_500, l_999, l_1000, l_9999, l_10000, l_99999, l_100000, l_1000000, l_1000000001, l_1000000002, l_1000000003, l_1000000005, l_1000000011, l_1000000012, l_1000000013, l_1000000014, u3, u4, u5, u6, c1, c2, c3, c6, show (0 < 1 + 0) = True from eq_true (by decide), z3, z5]
          exact go _ _ (by (first | exact Or.inl rfl | exact Or.inr ⟨_, by omega, rfl, by omega⟩)) (by (first | exact Or.inl rfl | exact Or.inr ⟨_, by omega, rfl, by omega⟩))
        · simp (maxSteps := 1000000) (disch := omega) only [jn_e, vv_e, bd_e, ld_i, nI_add, pk_mul, nlt, neq, gn_lt, ite_tt, ite_ff, l_0, l_1, l_2, l_3, l_4, l_5, l_6, l_7, l_8, l_9, l_10, l_11, l_12, l_13, l_16, l_20, l_24, l_30, l_32, l_33, l_38, l_42, l_43, l_45, l_47, l_48, l_50, l_57, l_60, l_61, l_62, l_96, l_97, l_99, l_100, l_102, l_105, l_110, l_121, l_122, l_124, l_128, l_200, l_255, l_270, l_350, l_360, l_400, l_440, l_490, l_500, l_999, l_1000, l_9999, l_10000, l_99999, l_100000, l_1000000, l_1000000001, l_1000000002, l_1000000003, l_1000000005, l_1000000011, l_1000000012, l_1000000013, l_1000000014, u3, u4, u5, u6, c1, c2, c3, c6, show (0 < 1 + 0) = True from eq_true (by decide), z3, z5]
          exact go _ _ (by (first | exact Or.inl rfl | exact Or.inr ⟨_, by omega, rfl, by omega⟩)) (by (first | exact Or.inl rfl | exact Or.inr ⟨_, by omega, rfl, by omega⟩))
      by_cases c1 : df < (U k).1
      · have c2 : ¬ (U k).1 < df := by omega
        by_cases c4 : (U k).2 = pl
        · simp (maxSteps := 1000000) (disch := omega) only [jn_e, vv_e, bd_e, ld_i, nI_add, pk_mul, nlt, neq, gn_lt, ite_tt, ite_ff, l_0, l_1, l_2, l_3, l_4, l_5, l_6, l_7, l_8, l_9, l_10, l_11, l_12, l_13, l_16, l_20, l_24, l_30, l_32, l_33, l_38, l_42, l_43, l_45, l_47, l_48, l_50, l_57, l_60, l_61, l_62, l_96, l_97, l_99, l_100, l_102, l_105, l_110, l_121, l_122, l_124, l_128, l_200, l_255, l_270, l_350, l_360, l_400, l_440, l_490, l_500, l_999, l_1000, l_9999, l_10000, l_99999, l_100000, l_1000000, l_1000000001, l_1000000002, l_1000000003, l_1000000005, l_1000000011, l_1000000012, l_1000000013, l_1000000014, u3, u4, u5, u6, c1, c2, c3, c4, show (0 < 1 + 0) = True from eq_true (by decide), z3, z5]
          exact go _ _ (by (first | exact Or.inl rfl | exact Or.inr ⟨_, by omega, rfl, by omega⟩)) (by (first | exact Or.inl rfl | exact Or.inr ⟨_, by omega, rfl, by omega⟩))
        · simp (maxSteps := 1000000) (disch := omega) only [jn_e, vv_e, bd_e, ld_i, nI_add, pk_mul, nlt, neq, gn_lt, ite_tt, ite_ff, l_0, l_1, l_2, l_3, l_4, l_5, l_6, l_7, l_8, l_9, l_10, l_11, l_12, l_13, l_16, l_20, l_24, l_30, l_32, l_33, l_38, l_42, l_43, l_45, l_47, l_48, l_50, l_57, l_60, l_61, l_62, l_96, l_97, l_99, l_100, l_102, l_105, l_110, l_121, l_122, l_124, l_128, l_200, l_255, l_270, l_350, l_360, l_400, l_440, l_490, l_500, l_999, l_1000, l_9999, l_10000, l_99999, l_100000, l_1000000, l_1000000001, l_1000000002, l_1000000003, l_1000000005, l_1000000011, l_1000000012, l_1000000013, l_1000000014, u3, u4, u5, u6, c1, c2, c3, c4, show (0 < 1 + 0) = True from eq_true (by decide), z3, z5]
          exact R2.mk ⟨Or.inl rfl, h⟩
      by_cases c2 : (U k).1 < df
      · skip
        simp (maxSteps := 1000000) (disch := omega) only [jn_e, vv_e, bd_e, ld_i, nI_add, pk_mul, nlt, neq, gn_lt, ite_tt, ite_ff, l_0, l_1, l_2, l_3, l_4, l_5, l_6, l_7, l_8, l_9, l_10, l_11, l_12, l_13, l_16, l_20, l_24, l_30, l_32, l_33, l_38, l_42, l_43, l_45, l_47, l_48, l_50, l_57, l_60, l_61, l_62, l_96, l_97, l_99, l_100, l_102, l_105, l_110, l_121, l_122, l_124, l_128, l_200, l_255, l_270, l_350, l_360, l_400, l_440, l_490, l_500, l_999, l_1000, l_9999, l_10000, l_99999, l_100000, l_1000000, l_1000000001, l_1000000002, l_1000000003, l_1000000005, l_1000000011, l_1000000012, l_1000000013, l_1000000014, u3, u4, u5, u6, c1, c2, c3, show (0 < 1 + 0) = True from eq_true (by decide), z3, z5]
        exact go _ _ (by (first | exact Or.inl rfl | exact Or.inr ⟨_, by omega, rfl, by omega⟩)) (by (first | exact Or.inl rfl | exact Or.inr ⟨_, by omega, rfl, by omega⟩))
      by_cases c4 : (U k).2 = pl
      · skip
        simp (maxSteps := 1000000) (disch := omega) only [jn_e, vv_e, bd_e, ld_i, nI_add, pk_mul, nlt, neq, gn_lt, ite_tt, ite_ff, l_0, l_1, l_2, l_3, l_4, l_5, l_6, l_7, l_8, l_9, l_10, l_11, l_12, l_13, l_16, l_20, l_24, l_30, l_32, l_33, l_38, l_42, l_43, l_45, l_47, l_48, l_50, l_57, l_60, l_61, l_62, l_96, l_97, l_99, l_100, l_102, l_105, l_110, l_121, l_122, l_124, l_128, l_200, l_255, l_270, l_350, l_360, l_400, l_440, l_490, l_500, l_999, l_1000, l_9999, l_10000, l_99999, l_100000, l_1000000, l_1000000001, l_1000000002, l_1000000003, l_1000000005, l_1000000011, l_1000000012, l_1000000013, l_1000000014, u3, u4, u5, u6, c1, c2, c3, c4, show (0 < 1 + 0) = True from eq_true (by decide), z3, z5]
        exact go _ _ (by (first | exact Or.inl rfl | exact Or.inr ⟨_, by omega, rfl, by omega⟩)) (by (first | exact Or.inl rfl | exact Or.inr ⟨_, by omega, rfl, by omega⟩))
      · skip
        simp (maxSteps := 1000000) (disch := omega) only [jn_e, vv_e, bd_e, ld_i, nI_add, pk_mul, nlt, neq, gn_lt, ite_tt, ite_ff, l_0, l_1, l_2, l_3, l_4, l_5, l_6, l_7, l_8, l_9, l_10, l_11, l_12, l_13, l_16, l_20, l_24, l_30, l_32, l_33, l_38, l_42, l_43, l_45, l_47, l_48, l_50, l_57, l_60, l_61, l_62, l_96, l_97, l_99, l_100, l_102, l_105, l_110, l_121, l_122, l_124, l_128, l_200, l_255, l_270, l_350, l_360, l_400, l_440, l_490, l_500, l_999, l_1000, l_9999, l_10000, l_99999, l_100000, l_1000000, l_1000000001, l_1000000002, l_1000000003, l_1000000005, l_1000000011, l_1000000012, l_1000000013, l_1000000014, u3, u4, u5, u6, c1, c2, c3, c4, show (0 < 1 + 0) = True from eq_true (by decide), z3, z5]
        exact R2.mk ⟨Or.inl rfl, h⟩
    · skip
      obtain ⟨y1, y2, y3, y4, y5, y6⟩ := hU i hi
      by_cases c3 : la < (U k).1
      · have c1 : df < (U k).1 := by omega
        have c2 : ¬ (U k).1 < df := by omega
        simp (maxSteps := 1000000) (disch := omega) only [jn_e, vv_e, bd_e, ld_i, nI_add, pk_mul, nlt, neq, gn_lt, ite_tt, ite_ff, l_0, l_1, l_2, l_3, l_4, l_5, l_6, l_7, l_8, l_9, l_10, l_11, l_12, l_13, l_16, l_20, l_24, l_30, l_32, l_33, l_38, l_42, l_43, l_45, l_47, l_48, l_50, l_57, l_60, l_61, l_62, l_96, l_97, l_99, l_100, l_102, l_105, l_110, l_121, l_122, l_124, l_128, l_200, l_255, l_270, l_350, l_360, l_400, l_440, l_490, l_500, l_999, l_1000, l_9999, l_10000, l_99999, l_100000, l_1000000, l_1000000001, l_1000000002, l_1000000003, l_1000000005, l_1000000011, l_1000000012, l_1000000013, l_1000000014, u3, u4, u5, u6, c1, c2, c3, y3, y5]
        exact go _ _ (by (first | exact Or.inl rfl | exact Or.inr ⟨_, by omega, rfl, by omega⟩)) (by (first | exact Or.inl rfl | exact Or.inr ⟨_, by omega, rfl, by omega⟩))
      by_cases c1 : df < (U k).1
      · have c2 : ¬ (U k).1 < df := by omega
        by_cases c4 : (U k).2 = pl
        · simp (maxSteps := 1000000) (disch := omega) only [jn_e, vv_e, bd_e, ld_i, nI_add, pk_mul, nlt, neq, gn_lt, ite_tt, ite_ff, l_0, l_1, l_2, l_3, l_4, l_5, l_6, l_7, l_8, l_9, l_10, l_11, l_12, l_13, l_16, l_20, l_24, l_30, l_32, l_33, l_38, l_42, l_43, l_45, l_47, l_48, l_50, l_57, l_60, l_61, l_62, l_96, l_97, l_99, l_100, l_102, l_105, l_110, l_121, l_122, l_124, l_128, l_200, l_255, l_270, l_350, l_360, l_400, l_440, l_490, l_500, l_999, l_1000, l_9999, l_10000, l_99999, l_100000, l_1000000, l_1000000001, l_1000000002, l_1000000003, l_1000000005, l_1000000011, l_1000000012, l_1000000013, l_1000000014, u3, u4, u5, u6, c1, c2, c3, c4, y3, y5]
          exact go _ _ (by (first | exact Or.inl rfl | exact Or.inr ⟨_, by omega, rfl, by omega⟩)) (by (first | exact Or.inl rfl | exact Or.inr ⟨_, by omega, rfl, by omega⟩))
        · simp (maxSteps := 1000000) (disch := omega) only [jn_e, vv_e, bd_e, ld_i, nI_add, pk_mul, nlt, neq, gn_lt, ite_tt, ite_ff, l_0, l_1, l_2, l_3, l_4, l_5, l_6, l_7, l_8, l_9, l_10, l_11, l_12, l_13, l_16, l_20, l_24, l_30, l_32, l_33, l_38, l_42, l_43, l_45, l_47, l_48, l_50, l_57, l_60, l_61, l_62, l_96, l_97, l_99, l_100, l_102, l_105, l_110, l_121, l_122, l_124, l_128, l_200, l_255, l_270, l_350, l_360, l_400, l_440, l_490, l_500, l_999, l_1000, l_9999, l_10000, l_99999, l_100000, l_1000000, l_1000000001, l_1000000002, l_1000000003, l_1000000005, l_1000000011, l_1000000012, l_1000000013, l_1000000014, u3, u4, u5, u6, c1, c2, c3, c4, y3, y5]
          exact R2.mk ⟨Or.inl rfl, h⟩
      by_cases c2 : (U k).1 < df
      · skip
        by_cases c5 : (U i).1 < (U k).1
        · simp (maxSteps := 1000000) (disch := omega) only [jn_e, vv_e, bd_e, ld_i, nI_add, pk_mul, nlt, neq, gn_lt, ite_tt, ite_ff, l_0, l_1, l_2, l_3, l_4, l_5, l_6, l_7, l_8, l_9, l_10, l_11, l_12, l_13, l_16, l_20, l_24, l_30, l_32, l_33, l_38, l_42, l_43, l_45, l_47, l_48, l_50, l_57, l_60, l_61, l_62, l_96, l_97, l_99, l_100, l_102, l_105, l_110, l_121, l_122, l_124, l_128, l_200, l_255, l_270, l_350, l_360, l_400, l_440, l_490, l_500, l_999, l_1000, l_9999, l_10000, l_99999, l_100000, l_1000000, l_1000000001, l_1000000002, l_1000000003, l_1000000005, l_1000000011, l_1000000012, l_1000000013, l_1000000014, u3, u4, u5, u6, c1, c2, c3, c5, y3, y5]
          exact go _ _ (by (first | exact Or.inl rfl | exact Or.inr ⟨_, by omega, rfl, by omega⟩)) (by (first | exact Or.inl rfl | exact Or.inr ⟨_, by omega, rfl, by omega⟩))
        · simp (maxSteps := 1000000) (disch := omega) only [jn_e, vv_e, bd_e, ld_i, nI_add, pk_mul, nlt, neq, gn_lt, ite_tt, ite_ff, l_0, l_1, l_2, l_3, l_4, l_5, l_6, l_7, l_8, l_9, l_10, l_11, l_12, l_13, l_16, l_20, l_24, l_30, l_32, l_33, l_38, l_42, l_43, l_45, l_47, l_48, l_50, l_57, l_60, l_61, l_62, l_96, l_97, l_99, l_100, l_102, l_105, l_110, l_121, l_122, l_124, l_128, l_200, l_255, l_270, l_350, l_360, l_400, l_440, l_490, l_500, l_999, l_1000, l_9999, l_10000, l_99999, l_100000, l_1000000, l_1000000001, l_1000000002, l_1000000003, l_1000000005, l_1000000011, l_1000000012, l_1000000013, l_1000000014, u3, u4, u5, u6, c1, c2, c3, c5, y3, y5]
          exact go _ _ (by (first | exact Or.inl rfl | exact Or.inr ⟨_, by omega, rfl, by omega⟩)) (by (first | exact Or.inl rfl | exact Or.inr ⟨_, by omega, rfl, by omega⟩))
      by_cases c4 : (U k).2 = pl
      · skip
        by_cases c5 : (U i).1 < (U k).1
        · simp (maxSteps := 1000000) (disch := omega) only [jn_e, vv_e, bd_e, ld_i, nI_add, pk_mul, nlt, neq, gn_lt, ite_tt, ite_ff, l_0, l_1, l_2, l_3, l_4, l_5, l_6, l_7, l_8, l_9, l_10, l_11, l_12, l_13, l_16, l_20, l_24, l_30, l_32, l_33, l_38, l_42, l_43, l_45, l_47, l_48, l_50, l_57, l_60, l_61, l_62, l_96, l_97, l_99, l_100, l_102, l_105, l_110, l_121, l_122, l_124, l_128, l_200, l_255, l_270, l_350, l_360, l_400, l_440, l_490, l_500, l_999, l_1000, l_9999, l_10000, l_99999, l_100000, l_1000000, l_1000000001, l_1000000002, l_1000000003, l_1000000005, l_1000000011, l_1000000012, l_1000000013, l_1000000014, u3, u4, u5, u6, c1, c2, c3, c5, c4, y3, y5]
          exact go _ _ (by (first | exact Or.inl rfl | exact Or.inr ⟨_, by omega, rfl, by omega⟩)) (by (first | exact Or.inl rfl | exact Or.inr ⟨_, by omega, rfl, by omega⟩))
        · simp (maxSteps := 1000000) (disch := omega) only [jn_e, vv_e, bd_e, ld_i, nI_add, pk_mul, nlt, neq, gn_lt, ite_tt, ite_ff, l_0, l_1, l_2, l_3, l_4, l_5, l_6, l_7, l_8, l_9, l_10, l_11, l_12, l_13, l_16, l_20, l_24, l_30, l_32, l_33, l_38, l_42, l_43, l_45, l_47, l_48, l_50, l_57, l_60, l_61, l_62, l_96, l_97, l_99, l_100, l_102, l_105, l_110, l_121, l_122, l_124, l_128, l_200, l_255, l_270, l_350, l_360, l_400, l_440, l_490, l_500, l_999, l_1000, l_9999, l_10000, l_99999, l_100000, l_1000000, l_1000000001, l_1000000002, l_1000000003, l_1000000005, l_1000000011, l_1000000012, l_1000000013, l_1000000014, u3, u4, u5, u6, c1, c2, c3, c5, c4, y3, y5]
          exact go _ _ (by (first | exact Or.inl rfl | exact Or.inr ⟨_, by omega, rfl, by omega⟩)) (by (first | exact Or.inl rfl | exact Or.inr ⟨_, by omega, rfl, by omega⟩))
      · skip
        by_cases c5 : (U i).1 < (U k).1
        · simp (maxSteps := 1000000) (disch := omega) only [jn_e, vv_e, bd_e, ld_i, nI_add, pk_mul, nlt, neq, gn_lt, ite_tt, ite_ff, l_0, l_1, l_2, l_3, l_4, l_5, l_6, l_7, l_8, l_9, l_10, l_11, l_12, l_13, l_16, l_20, l_24, l_30, l_32, l_33, l_38, l_42, l_43, l_45, l_47, l_48, l_50, l_57, l_60, l_61, l_62, l_96, l_97, l_99, l_100, l_102, l_105, l_110, l_121, l_122, l_124, l_128, l_200, l_255, l_270, l_350, l_360, l_400, l_440, l_490, l_500, l_999, l_1000, l_9999, l_10000, l_99999, l_100000, l_1000000, l_1000000001, l_1000000002, l_1000000003, l_1000000005, l_1000000011, l_1000000012, l_1000000013, l_1000000014, u3, u4, u5, u6, c1, c2, c3, c5, c4, y3, y5]
          exact R2.mk ⟨Or.inl rfl, h⟩
        · simp (maxSteps := 1000000) (disch := omega) only [jn_e, vv_e, bd_e, ld_i, nI_add, pk_mul, nlt, neq, gn_lt, ite_tt, ite_ff, l_0, l_1, l_2, l_3, l_4, l_5, l_6, l_7, l_8, l_9, l_10, l_11, l_12, l_13, l_16, l_20, l_24, l_30, l_32, l_33, l_38, l_42, l_43, l_45, l_47, l_48, l_50, l_57, l_60, l_61, l_62, l_96, l_97, l_99, l_100, l_102, l_105, l_110, l_121, l_122, l_124, l_128, l_200, l_255, l_270, l_350, l_360, l_400, l_440, l_490, l_500, l_999, l_1000, l_9999, l_10000, l_99999, l_100000, l_1000000, l_1000000001, l_1000000002, l_1000000003, l_1000000005, l_1000000011, l_1000000012, l_1000000013, l_1000000014, u3, u4, u5, u6, c1, c2, c3, c5, c4, y3, y5]
          exact R2.mk ⟨Or.inl rfl, h⟩
    · skip
      obtain ⟨y1, y2, y3, y4, y5, y6⟩ := hU i hi
      obtain ⟨z1, z2, z3, z4, z5, z6⟩ := hU i2 hi2
      by_cases c3 : la < (U k).1
      · have c1 : df < (U k).1 := by omega
        have c2 : ¬ (U k).1 < df := by omega
        by_cases c6 : (U k).1 < (U i2).1
        · simp (maxSteps := 1000000) (disch := omega) only [jn_e, vv_e, bd_e, ld_i, nI_add, pk_mul, nlt, neq, gn_lt, ite_tt, ite_ff, l_0, l_1, l_2, l_3, l_4, l_5, l_6, l_7, l_8, l_9, l_10, l_11, l_12, l_13, l_16, l_20, l_24, l_30, l_32, l_33, l_38, l_42, l_43, l_45, l_47, l_48, l_50, l_57, l_60, l_61, l_62, l_96, l_97, l_99, l_100, l_102, l_105, l_110, l_121, l_122, l_124, l_128, l_200, l_255, l_270, l_350, l_360, l_400, l_440, l_490, l_500, l_999, l_1000, l_9999, l_10000, l_99999, l_100000, l_1000000, l_1000000001, l_1000000002, l_1000000003, l_1000000005, l_1000000011, l_1000000012, l_1000000013, l_1000000014, u3, u4, u5, u6, c1, c2, c3, c6, y3, y5, z3, z5]
          exact go _ _ (by (first | exact Or.inl rfl | exact Or.inr ⟨_, by omega, rfl, by omega⟩)) (by (first | exact Or.inl rfl | exact Or.inr ⟨_, by omega, rfl, by omega⟩))
        · simp (maxSteps := 1000000) (disch := omega) only [jn_e, vv_e, bd_e, ld_i, nI_add, pk_mul, nlt, neq, gn_lt, ite_tt, ite_ff, l_0, l_1, l_2, l_3, l_4, l_5, l_6, l_7, l_8, l_9, l_10, l_11, l_12, l_13, l_16, l_20, l_24, l_30, l_32, l_33, l_38, l_42, l_43, l_45, l_47, l_48, l_50, l_57, l_60, l_61, l_62, l_96, l_97, l_99, l_100, l_102, l_105, l_110, l_121, l_122, l_124, l_128, l_200, l_255, l_270, l_350, l_360, l_400, l_440, l_490, l_500, l_999, l_1000, l_9999, l_10000, l_99999, l_100000, l_1000000, l_1000000001, l_1000000002, l_1000000003, l_1000000005, l_1000000011, l_1000000012, l_1000000013, l_1000000014, u3, u4, u5, u6, c1, c2, c3, c6, y3, y5, z3, z5]
          exact go _ _ (by (first | exact Or.inl rfl | exact Or.inr ⟨_, by omega, rfl, by omega⟩)) (by (first | exact Or.inl rfl | exact Or.inr ⟨_, by omega, rfl, by omega⟩))
      by_cases c1 : df < (U k).1
      · have c2 : ¬ (U k).1 < df := by omega
        by_cases c4 : (U k).2 = pl
        · simp (maxSteps := 1000000) (disch := omega) only [jn_e, vv_e, bd_e, ld_i, nI_add, pk_mul, nlt, neq, gn_lt, ite_tt, ite_ff, l_0, l_1, l_2, l_3, l_4, l_5, l_6, l_7, l_8, l_9, l_10, l_11, l_12, l_13, l_16, l_20, l_24, l_30, l_32, l_33, l_38, l_42, l_43, l_45, l_47, l_48, l_50, l_57, l_60, l_61, l_62, l_96, l_97, l_99, l_100, l_102, l_105, l_110, l_121, l_122, l_124, l_128, l_200, l_255, l_270, l_350, l_360, l_400, l_440, l_490, l_500, l_999, l_1000, l_9999, l_10000, l_99999, l_100000, l_1000000, l_1000000001, l_1000000002, l_1000000003, l_1000000005, l_1000000011, l_1000000012, l_1000000013, l_1000000014, u3, u4, u5, u6, c1, c2, c3, c4, y3, y5, z3, z5]
          exact go _ _ (by (first | exact Or.inl rfl | exact Or.inr ⟨_, by omega, rfl, by omega⟩)) (by (first | exact Or.inl rfl | exact Or.inr ⟨_, by omega, rfl, by omega⟩))
        · simp (maxSteps := 1000000) (disch := omega) only [jn_e, vv_e, bd_e, ld_i, nI_add, pk_mul, nlt, neq, gn_lt, ite_tt, ite_ff, l_0, l_1, l_2, l_3, l_4, l_5, l_6, l_7, l_8, l_9, l_10, l_11, l_12, l_13, l_16, l_20, l_24, l_30, l_32, l_33, l_38, l_42, l_43, l_45, l_47, l_48, l_50, l_57, l_60, l_61, l_62, l_96, l_97, l_99, l_100, l_102, l_105, l_110, l_121, l_122, l_124, l_128, l_200, l_255, l_270, l_350, l_360, l_400, l_440, l_490, l_500, l_999, l_1000, l_9999, l_10000, l_99999, l_100000, l_1000000, l_1000000001, l_1000000002, l_1000000003, l_1000000005, l_1000000011, l_1000000012, l_1000000013, l_1000000014, u3, u4, u5, u6, c1, c2, c3, c4, y3, y5, z3, z5]
          exact R2.mk ⟨Or.inl rfl, h⟩
      by_cases c2 : (U k).1 < df
      · skip
        by_cases c5 : (U i).1 < (U k).1
        · simp (maxSteps := 1000000) (disch := omega) only [jn_e, vv_e, bd_e, ld_i, nI_add, pk_mul, nlt, neq, gn_lt, ite_tt, ite_ff, l_0, l_1, l_2, l_3, l_4, l_5, l_6, l_7, l_8, l_9, l_10, l_11, l_12, l_13, l_16, l_20, l_24, l_30, l_32, l_33, l_38, l_42, l_43, l_45, l_47, l_48, l_50, l_57, l_60, l_61, l_62, l_96, l_97, l_99, l_100, l_102, l_105, l_110, l_121, l_122, l_124, l_128, l_200, l_255, l_270, l_350, l_360, l_400, l_440, l_490, l_500, l_999, l_1000, l_9999, l_10000, l_99999, l_100000, l_1000000, l_1000000001, l_1000000002, l_1000000003, l_1000000005, l_1000000011, l_1000000012, l_1000000013, l_1000000014, u3, u4, u5, u6, c1, c2, c3, c5, y3, y5, z3, z5]
          exact go _ _ (by (first | exact Or.inl rfl | exact Or.inr ⟨_, by omega, rfl, by omega⟩)) (by (first | exact Or.inl rfl | exact Or.inr ⟨_, by omega, rfl, by omega⟩))
        · simp (maxSteps := 1000000) (disch := omega) only [jn_e, vv_e, bd_e, ld_i, nI_add, pk_mul, nlt, neq, gn_lt, ite_tt, ite_ff, l_0, l_1, l_2, l_3, l_4, l_5, l_6, l_7, l_8, l_9, l_10, l_11, l_12, l_13, l_16, l_20, l_24, l_30, l_32, l_33, l_38, l_42, l_43, l_45, l_47, l_48, l_50, l_57, l_60, l_61, l_62, l_96, l_97, l_99, l_100, l_102, l_105, l_110, l_121, l_122, l_124, l_128, l_200, l_255, l_270, l_350, l_360, l_400, l_440, l_490, l_500, l_999, l_1000, l_9999, l_10000, l_99999, l_100000, l_1000000, l_1000000001, l_1000000002, l_1000000003, l_1000000005, l_1000000011, l_1000000012, l_1000000013, l_1000000014, u3, u4, u5, u6, c1, c2, c3, c5, y3, y5, z3, z5]
          exact go _ _ (by (first | exact Or.inl rfl | exact Or.inr ⟨_, by omega, rfl, by omega⟩)) (by (first | exact Or.inl rfl | exact Or.inr ⟨_, by omega, rfl, by omega⟩))
      by_cases c4 : (U k).2 = pl
      · skip
        by_cases c5 : (U i).1 < (U k).1
        · simp (maxSteps := 1000000) (disch := omega) only [jn_e, vv_e, bd_e, ld_i, nI_add, pk_mul, nlt, neq, gn_lt, ite_tt, ite_ff, l_0, l_1, l_2, l_3, l_4, l_5, l_6, l_7, l_8, l_9, l_10, l_11, l_12, l_13, l_16, l_20, l_24, l_30, l_32, l_33, l_38, l_42, l_43, l_45, l_47, l_48, l_50, l_57, l_60, l_61, l_62, l_96, l_97, l_99, l_100, l_102, l_105, l_110, l_121, l_122, l_124, l_128, l_200, l_255, l_270, l_350, l_360, l_400, l_440, l_490, l_500, l_999, l_1000, l_9999, l_10000, l_99999, l_100000, l_1000000, l_1000000001, l_1000000002, l_1000000003, l_1000000005, l_1000000011, l_1000000012, l_1000000013, l_1000000014, u3, u4, u5, u6, c1, c2, c3, c5, c4, y3, y5, z3, z5]
          exact go _ _ (by (first | exact Or.inl rfl | exact Or.inr ⟨_, by omega, rfl, by omega⟩)) (by (first | exact Or.inl rfl | exact Or.inr ⟨_, by omega, rfl, by omega⟩))
        · simp (maxSteps := 1000000) (disch := omega) only [jn_e, vv_e, bd_e, ld_i, nI_add, pk_mul, nlt, neq, gn_lt, ite_tt, ite_ff, l_0, l_1, l_2, l_3, l_4, l_5, l_6, l_7, l_8, l_9, l_10, l_11, l_12, l_13, l_16, l_20, l_24, l_30, l_32, l_33, l_38, l_42, l_43, l_45, l_47, l_48, l_50, l_57, l_60, l_61, l_62, l_96, l_97, l_99, l_100, l_102, l_105, l_110, l_121, l_122, l_124, l_128, l_200, l_255, l_270, l_350, l_360, l_400, l_440, l_490, l_500, l_999, l_1000, l_9999, l_10000, l_99999, l_100000, l_1000000, l_1000000001, l_1000000002, l_1000000003, l_1000000005, l_1000000011, l_1000000012, l_1000000013, l_1000000014, u3, u4, u5, u6, c1, c2, c3, c5, c4, y3, y5, z3, z5]
          exact go _ _ (by (first | exact Or.inl rfl | exact Or.inr ⟨_, by omega, rfl, by omega⟩)) (by (first | exact Or.inl rfl | exact Or.inr ⟨_, by omega, rfl, by omega⟩))
      · skip
        by_cases c5 : (U i).1 < (U k).1
        · simp (maxSteps := 1000000) (disch := omega) only [jn_e, vv_e, bd_e, ld_i, nI_add, pk_mul, nlt, neq, gn_lt, ite_tt, ite_ff, l_0, l_1, l_2, l_3, l_4, l_5, l_6, l_7, l_8, l_9, l_10, l_11, l_12, l_13, l_16, l_20, l_24, l_30, l_32, l_33, l_38, l_42, l_43, l_45, l_47, l_48, l_50, l_57, l_60, l_61, l_62, l_96, l_97, l_99, l_100, l_102, l_105, l_110, l_121, l_122, l_124, l_128, l_200, l_255, l_270, l_350, l_360, l_400, l_440, l_490, l_500, l_999, l_1000, l_9999, l_10000, l_99999, l_100000, l_1000000, l_1000000001, l_1000000002, l_1000000003, l_1000000005, l_1000000011, l_1000000012, l_1000000013, l_1000000014, u3, u4, u5, u6, c1, c2, c3, c5, c4, y3, y5, z3, z5]
          exact R2.mk ⟨Or.inl rfl, h⟩
        · simp (maxSteps := 1000000) (disch := omega) only [jn_e, vv_e, bd_e, ld_i, nI_add, pk_mul, nlt, neq, gn_lt, ite_tt, ite_ff, l_0, l_1, l_2, l_3, l_4, l_5, l_6, l_7, l_8, l_9, l_10, l_11, l_12, l_13, l_16, l_20, l_24, l_30, l_32, l_33, l_38, l_42, l_43, l_45, l_47, l_48, l_50, l_57, l_60, l_61, l_62, l_96, l_97, l_99, l_100, l_102, l_105, l_110, l_121, l_122, l_124, l_128, l_200, l_255, l_270, l_350, l_360, l_400, l_440, l_490, l_500, l_999, l_1000, l_9999, l_10000, l_99999, l_100000, l_1000000, l_1000000001, l_1000000002, l_1000000003, l_1000000005, l_1000000011, l_1000000012, l_1000000013, l_1000000014, u3, u4, u5, u6, c1, c2, c3, c5, c4, y3, y5, z3, z5]
          exact R2.mk ⟨Or.inl rfl, h⟩
  subst hkE
  rw [if_neg (nI_nlt (Nat.le_refl _) (by omega)), if_neg (nI_nlt (Nat.le_refl _) (by omega))]
  have tail : ∀ M2 N2, Ec M M2 → Em N N2 → R2 (fun r M' N' => (r = nI 0 ∨ r = nI 1) ∧ Inv M' N') (if x2 < 0 then some (1, M2) else ld M2 22 x2 20 fun x8 => ld M2 21 x2 20 fun x10 => bd (f_X2_canGo 19 (nI pl) x8 (x10 - nI la) M2) fun x11 M => if x11 = 0 then some (0, M) else some (1, M)) (bd (f_X10_isNear 0 x2 (nI pl) (nI la) N2) fun x12 M => if x12 = 0 then some (0, M) else some (1, M)) := by
    intro M2 N2 E1 E2
    have h2 := h.ee E1 E2
    rcases hv2 with rfl | ⟨i2, hi2, rfl, hui2⟩
    · rw [if_pos (show -nI 1 < 0 by decide), y_near_n, bd_e, if_neg (show ¬ nI 1 = 0 by decide)]
      exact R2.mk ⟨Or.inr rfl, h2⟩
    · obtain ⟨z1, z2, z3, z4, z5, z6⟩ := hU i2 hi2
      have m20 : M2 20 = M 20 := E1 20 (by decide) (by decide) (by decide) (by decide) (by decide) (by decide)
      have m21 : M2 21 = M 21 := E1 21 (by decide) (by decide) (by decide) (by decide) (by decide) (by decide)
      have m22 : M2 22 = M 22 := E1 22 (by decide) (by decide) (by decide) (by decide) (by decide) (by decide)
      have n1 : N2 1 = N 1 := E2.1 1 (by omega)
      rw [if_neg (nI_pos (by omega)), ld_i (by omega) (by decide), ld_i (by omega) (by decide), m22, z4, m21, z3, pk_sub (by omega)]
      obtain ⟨M3, e3, E3⟩ := (x_canGo (w := w) (M := M2) (s := pl) (t := (U i2).2) (u := (U i2).1 - la) (by omega) z2 (by omega) (by rw [m20]; exact w1)).v
      obtain ⟨N3, e4, E4⟩ := (y_near (w := w) (N := N2) (i := i2) (p := pl) (v := (U i2).2) (u := (U i2).1) (dA := la) (off := (U i2).1 - la) (by omega) (by omega) z2 z1 (by omega) (Or.inr ⟨hui2, rfl⟩) (by rw [n1]; exact z5) (by rw [n1]; exact z6) (by rw [n1]; exact w2)).v
      rw [e3, e4, bd_e, bd_e]
      rcases cg_01 (dd w pl (U i2).2) ((U i2).1 - la) with q | q
      · rw [q, if_pos (show nI 0 = 0 from rfl), if_pos (show nI 0 = 0 from rfl)]
        exact R2.mk ⟨Or.inl rfl, h2.ee E3 E4⟩
      · rw [q, if_neg (show ¬ nI 1 = 0 by decide), if_neg (show ¬ nI 1 = 0 by decide)]
        exact R2.mk ⟨Or.inr rfl, h2.ee E3 E4⟩
  rw [jn_e]
  rcases hv1 with rfl | ⟨i, hi, rfl, hui⟩
  · rw [if_pos (show -nI 1 < 0 by decide), y_near_n, bd_e, if_neg (show ¬ nI 1 = 0 by decide)]
    exact tail M N Ec.rfl' Em.rfl'
  · obtain ⟨y1, y2, y3, y4, y5, y6⟩ := hU i hi
    rw [if_neg (nI_pos (by omega)), ld_i (by omega) (by decide), ld_i (by omega) (by decide), y4, y3, pk_sub (by omega)]
    obtain ⟨M3, e3, E3⟩ := (x_canGo (w := w) (M := M) (s := (U i).2) (t := pl) (u := df - (U i).1) y2 (by omega) (by omega) w1).v
    obtain ⟨N3, e4, E4⟩ := (y_near (w := w) (N := N) (i := i) (p := pl) (v := (U i).2) (u := (U i).1) (dA := df) (off := df - (U i).1) (by omega) (by omega) y2 y1 (by omega) (Or.inl ⟨hui, rfl⟩) y5 y6 w2).v
    rw [dd_sym w3 y2 (by omega)] at e3
    rw [e3, e4, bd_e, bd_e]
    rcases cg_01 (dd w pl (U i).2) (df - (U i).1) with q | q
    · rw [q, if_pos (show nI 0 = 0 from rfl), if_pos (show nI 0 = 0 from rfl)]
      exact R2.mk ⟨Or.inl rfl, h.ee E3 E4⟩
    · rw [q, if_neg (show ¬ nI 1 = 0 by decide), if_neg (show ¬ nI 1 = 0 by decide)]
      exact tail M3 N3 E3 E4
