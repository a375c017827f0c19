/-! what a text gives -/
def jnv (c x y : Int32) : Int32 := if c = 38 then (if x = 0 then 0 else if y = 0 then 0 else 1) else if c = 42 then x * y else if c = 43 then x + y else if c = 45 then x - y else if c = 47 then (if y = 0 then 0 else x / y) else if c = 60 then (if x < y then 1 else 0) else if c = 61 then (if x = y then 1 else 0) else if c = 62 then (if y < x then 1 else 0) else (if x = 0 then (if y = 0 then 0 else 1) else 1)
def sgnN (u : Nat) : Prop := u = 43 ∨ u = 45 ∨ u = 42 ∨ u = 47 ∨ u = 60 ∨ u = 61 ∨ u = 62 ∨ u = 38 ∨ u = 124
theorem x_join (u : Nat) (x y : Int32) (M : Mem) (h : sgnN u) : f_X8_join (nI u) x y M = some (jnv (nI u) x y, M) := by
  rcases h with rfl | rfl | rfl | rfl | rfl | rfl | rfl | rfl | rfl
  · rfl
  · rfl
  · rfl
  · show (if y = 0 then some (0, M) else dv y (some (x / y, M))) = some (if y = 0 then 0 else x / y, M)
    by_cases h : y = 0
    · rw [if_pos h, if_pos h]
    · rw [if_neg h, if_neg h, dv_n h]
  · show (if x < y then some (1, M) else some (0, M)) = some (if x < y then 1 else 0, M)
    split <;> rfl
  · show (if x = y then some (1, M) else some (0, M)) = some (if x = y then 1 else 0, M)
    split <;> rfl
  · show (if y < x then some (1, M) else some (0, M)) = some (if y < x then 1 else 0, M)
    split <;> rfl
  · show (if x = 0 then some (0, M) else if y = 0 then some (0, M) else some (1, M)) = some (if x = 0 then 0 else if y = 0 then 0 else 1, M)
    by_cases h : x = 0
    · rw [if_pos h, if_pos h]
    · rw [if_neg h, if_neg h]
      split <;> rfl
  · show (if x = 0 then (if y = 0 then some (0, M) else some (1, M)) else some (1, M)) = some (if x = 0 then (if y = 0 then 0 else 1) else 1, M)
    by_cases h : x = 0
    · rw [if_pos h, if_pos h]
      split <;> rfl
    · rw [if_neg h, if_neg h]
theorem div_m1 (x : Int32) : x / -1 = -x := by
  rw [← Int32.toInt_inj, Int32.toInt_div, show (-1 : Int32).toInt = -1 from rfl, Int32.toInt_neg, Int.tdiv_neg, Int.tdiv_one]
theorem y_joined (u : Nat) (x y : Int32) (M : Mem) (h : sgnN u) : f_X10_joined (nI u) x y M = some (jnv (nI u) x y, M) := by
  rcases h with rfl | rfl | rfl | rfl | rfl | rfl | rfl | rfl | rfl
  · rfl
  · rfl
  · rfl
  · show (if y = 0 then some (0, M) else if y = -1 then some (-x, M) else dv y (some (x / y, M))) = some (if y = 0 then 0 else x / y, M)
    by_cases h : y = 0
    · rw [if_pos h, if_pos h]
    · rw [if_neg h, if_neg h, dv_n h]
      by_cases h1 : y = -1
      · rw [if_pos h1, h1, div_m1]
      · rw [if_neg h1]
  · show (if x < y then some (1, M) else some (0, M)) = some (if x < y then 1 else 0, M)
    split <;> rfl
  · show (if x = y then some (1, M) else some (0, M)) = some (if x = y then 1 else 0, M)
    split <;> rfl
  · show (if y < x then some (1, M) else some (0, M)) = some (if y < x then 1 else 0, M)
    split <;> rfl
  · show (if x = 0 then some (0, M) else if y = 0 then some (0, M) else some (1, M)) = some (if x = 0 then 0 else if y = 0 then 0 else 1, M)
    by_cases h : x = 0
    · rw [if_pos h, if_pos h]
    · rw [if_neg h, if_neg h]
      split <;> rfl
  · show (if x = 0 then (if y = 0 then some (0, M) else some (1, M)) else some (1, M)) = some (if x = 0 then (if y = 0 then 0 else 1) else 1, M)
    by_cases h : x = 0
    · rw [if_pos h, if_pos h]
      split <;> rfl
    · rw [if_neg h, if_neg h]
def NameOK (key : Int32) (i u : Nat) : Prop := (key = 0 ∧ ((i = 1 ∧ u = 110) ∨ (i = 2 ∧ u = 102) ∨ (i = 3 ∧ u = 105))) ∨ (key = 1 ∧ ((i = 1 ∧ u = 110) ∨ (i = 2 ∧ u = 121))) ∨ (key = 2 ∧ ((i = 1 ∧ u = 99) ∨ (i = 2 ∧ u = 100) ∨ (i = 3 ∧ u = 97)))
theorem NameOK.b {key : Int32} {i u : Nat} (h : NameOK key i u) : 1 ≤ i ∧ i ≤ 3 ∧ u < 128 := by
  unfold NameOK at h
  omega
theorem step_cases {key x w v : Int32} {d d' : Nat} (h : StepOK key x w v d d') :
    (∃ u, u < 10000 ∧ x = nI u ∧ w = nI 0 ∧ v = nI u ∧ d' = d + 1) ∨ (∃ i u, NameOK key i u ∧ x = -nI i ∧ w = nI 1 ∧ v = nI u ∧ d' = d + 1) ∨ (x = -nI 33 ∧ w = nI 2 ∧ v = nI 33 ∧ 1 ≤ d ∧ d' = d) ∨ ∃ u, sgnN u ∧ x = -nI u ∧ w = nI 2 ∧ v = nI u ∧ 2 ≤ d ∧ d' + 1 = d := by
  rcases h with ⟨⟨u, hu, rfl⟩, rfl, rfl, h1⟩ | ⟨rfl, h1, hn⟩ | ⟨rfl, rfl, rfl, h1, h2⟩ | ⟨rfl, rfl, hv, h1, h2⟩
  · exact Or.inl ⟨u, hu, rfl, rfl, rfl, h1⟩
  · refine Or.inr (Or.inl ?_)
    rcases hn with ⟨rfl, ⟨rfl, rfl⟩ | ⟨rfl, rfl⟩ | ⟨rfl, rfl⟩⟩ | ⟨rfl, ⟨rfl, rfl⟩ | ⟨rfl, rfl⟩⟩ | ⟨rfl, ⟨rfl, rfl⟩ | ⟨rfl, rfl⟩ | ⟨rfl, rfl⟩⟩
    · exact ⟨1, 110, Or.inl ⟨rfl, Or.inl ⟨rfl, rfl⟩⟩, rfl, rfl, rfl, h1⟩
    · exact ⟨2, 102, Or.inl ⟨rfl, Or.inr (Or.inl ⟨rfl, rfl⟩)⟩, rfl, rfl, rfl, h1⟩
    · exact ⟨3, 105, Or.inl ⟨rfl, Or.inr (Or.inr ⟨rfl, rfl⟩)⟩, rfl, rfl, rfl, h1⟩
    · exact ⟨1, 110, Or.inr (Or.inl ⟨rfl, Or.inl ⟨rfl, rfl⟩⟩), rfl, rfl, rfl, h1⟩
    · exact ⟨2, 121, Or.inr (Or.inl ⟨rfl, Or.inr ⟨rfl, rfl⟩⟩), rfl, rfl, rfl, h1⟩
    · exact ⟨1, 99, Or.inr (Or.inr ⟨rfl, Or.inl ⟨rfl, rfl⟩⟩), rfl, rfl, rfl, h1⟩
    · exact ⟨2, 100, Or.inr (Or.inr ⟨rfl, Or.inr (Or.inl ⟨rfl, rfl⟩)⟩), rfl, rfl, rfl, h1⟩
    · exact ⟨3, 97, Or.inr (Or.inr ⟨rfl, Or.inr (Or.inr ⟨rfl, rfl⟩)⟩), rfl, rfl, rfl, h1⟩
  · exact Or.inr (Or.inr (Or.inl ⟨rfl, rfl, rfl, h1, h2⟩))
  · refine Or.inr (Or.inr (Or.inr ?_))
    rcases hv with rfl | rfl | rfl | rfl | rfl | rfl | rfl | rfl | rfl
    · exact ⟨43, by unfold sgnN; omega, rfl, rfl, rfl, h1, h2⟩
    · exact ⟨45, by unfold sgnN; omega, rfl, rfl, rfl, h1, h2⟩
    · exact ⟨42, by unfold sgnN; omega, rfl, rfl, rfl, h1, h2⟩
    · exact ⟨47, by unfold sgnN; omega, rfl, rfl, rfl, h1, h2⟩
    · exact ⟨60, by unfold sgnN; omega, rfl, rfl, rfl, h1, h2⟩
    · exact ⟨61, by unfold sgnN; omega, rfl, rfl, rfl, h1, h2⟩
    · exact ⟨62, by unfold sgnN; omega, rfl, rfl, rfl, h1, h2⟩
    · exact ⟨38, by unfold sgnN; omega, rfl, rfl, rfl, h1, h2⟩
    · exact ⟨124, by unfold sgnN; omega, rfl, rfl, rfl, h1, h2⟩
def sg (nm : Int32 → Int32) (w v : Int32) (q : Nat × (Nat → Int32)) : Nat × (Nat → Int32) :=
  if w = nI 2 then (if v = nI 33 then (q.1, upd q.2 (q.1 - 1) (if q.2 (q.1 - 1) = nI 0 then nI 1 else nI 0)) else (q.1 - 1, upd q.2 (q.1 - 2) (jnv v (q.2 (q.1 - 2)) (q.2 (q.1 - 1))))) else (q.1 + 1, upd q.2 q.1 (if w = nI 0 then v else nm v))
def sq (nm : Int32 → Int32) (w v : Nat → Int32) : Nat → Nat × (Nat → Int32)
  | 0 => (0, fun _ => 0)
  | k + 1 => sg nm (w k) (v k) (sq nm w v k)
def ev (nm : Int32 → Int32) (w v : Nat → Int32) (m : Nat) : Int32 := (sq nm w v m).2 0
theorem sg0 (nm : Int32 → Int32) (v : Int32) (q : Nat × (Nat → Int32)) : sg nm (nI 0) v q = (q.1 + 1, upd q.2 q.1 v) := by
  unfold sg
  rw [if_neg (by decide), if_pos rfl]
theorem sg1 (nm : Int32 → Int32) (v : Int32) (q : Nat × (Nat → Int32)) : sg nm (nI 1) v q = (q.1 + 1, upd q.2 q.1 (nm v)) := by
  unfold sg
  rw [if_neg (by decide), if_neg (by decide)]
theorem sg2 (nm : Int32 → Int32) (q : Nat × (Nat → Int32)) : sg nm (nI 2) (nI 33) q = (q.1, upd q.2 (q.1 - 1) (if q.2 (q.1 - 1) = nI 0 then nI 1 else nI 0)) := by
  unfold sg
  rw [if_pos rfl, if_pos rfl]
theorem sg3 (nm : Int32 → Int32) (u : Nat) (h : sgnN u) (q : Nat × (Nat → Int32)) : sg nm (nI 2) (nI u) q = (q.1 - 1, upd q.2 (q.1 - 2) (jnv (nI u) (q.2 (q.1 - 2)) (q.2 (q.1 - 1)))) := by
  unfold sg
  rw [if_pos rfl, if_neg]
  intro e
  have := (nI_eq (a := u) (b := 33) (by unfold sgnN at h; omega) (by decide)).mp e
  unfold sgnN at h
  omega
theorem sq_d {key : Int32} {m : Nat} {nm : Int32 → Int32} {x w v : Nat → Int32} {d : Nat → Nat} (d0 : d 0 = 0) (hs : ∀ k, k < m → StepOK key (x k) (w k) (v k) (d k) (d (k + 1))) : ∀ k, k ≤ m → (sq nm w v k).1 = d k ∧ d k ≤ k
  | 0, _ => ⟨d0.symm, by omega⟩
  | k + 1, hk => by
    obtain ⟨e, e2⟩ := sq_d (nm := nm) d0 hs k (by omega)
    rw [sq]
    rcases step_cases (hs k (by omega)) with ⟨u, hu, -, h2, h3, h4⟩ | ⟨i, u, hu, -, h2, h3, h4⟩ | ⟨-, h2, h3, h4, h5⟩ | ⟨u, hu, -, h2, h3, h4, h5⟩
    · rw [h2, sg0, e]; exact ⟨h4.symm, by omega⟩
    · rw [h2, sg1, e]; exact ⟨h4.symm, by omega⟩
    · rw [h2, h3, sg2, e]; exact ⟨h5.symm, by omega⟩
    · rw [h2, h3, sg3 nm u hu, e]; exact ⟨by show d k - 1 = d (k + 1); omega, by omega⟩
theorem upd_cg {f g : Nat → Int32} {k n : Nat} {v : Int32} (h : ∀ j, j < n → j ≠ k → f j = g j) : ∀ j, j < n → upd f k v j = upd g k v j := by
  intro j hj
  by_cases e : j = k
  · subst e; rw [upd_s, upd_s]
  · rw [upd_n e, upd_n e]; exact h j hj e
theorem x_give (o nX t m : Nat) (a b c : Int32) (nm : Int32 → Int32) (M : Mem) (key : Int32) (w v : Nat → Int32) (d : Nat → Nat)
    (s1 : grf G1 o 4 ≠ grf G1 o 6) (s2 : grf G1 o 5 ≠ grf G1 o 6) (h0 : M o 0 = nI nX) (hX : nX ≤ 14) (ht : t < nX) (hl : M (grf G1 o 4) t = nI m) (hm : m ≤ 96)
    (d0 : d 0 = 0) (dm : d m = 1) (hst : ∀ k, k < m → StepOK key (M (grf G1 o 5) (t * 96 + k)) (w k) (v k) (d k) (d (k + 1)))
    (hn : ∀ i u, NameOK key i u → (i = 1 ∧ nm (nI u) = a) ∨ (i = 2 ∧ nm (nI u) = b) ∨ (i = 3 ∧ nm (nI u) = c)) :
    Res (fun r M' => r = ev nm w v m ∧ ∀ q, q ≠ grf G1 o 6 → M' q = M q) (f_X8_give o (nI t) a b c M) := by
  have hd := sq_d (nm := nm) (x := fun k => M (grf G1 o 5) (t * 96 + k)) d0 hst
  unfold f_X8_give
  simp (maxSteps := 1000000) (disch := omega) only [vv_e, mm_e, jn_e, bd_e, bd_i, ld_i, st_i, la_i, sl_i, nI_add, pk_mul, pk_sub, ng_add, neg_neg_n, nlt, nle, neq, ng_lt, gn_lt, gg_lt, ng_le, gn_le, gg_le, ng_eq, gn_eq, gg_eq, dv_i, if_pos, if_neg, ite_tt, ite_ff, if_b2, if_b2n, l_0, l_1, l_2, l_3, l_4, l_5, l_6, l_7, l_8, l_9, l_10, l_11, l_12, l_13, l_16, l_20, l_24, l_30, l_32, l_33, l_38, l_42, l_43, l_45, l_47, l_48, l_50, l_57, l_60, l_61, l_62, l_96, l_97, l_99, l_100, l_102, l_105, l_110, l_121, l_122, l_124, l_128, l_200, l_255, l_270, l_350, l_360, l_400, l_440, l_490, l_500, l_999, l_1000, l_9999, l_10000, l_99999, l_100000, l_1000000, l_1000000001, l_1000000002, l_1000000003, l_1000000005, l_1000000011, l_1000000012, l_1000000013, l_1000000014, h0]
  refine lo2 (fun n x y M' => ∃ k, k + n = m ∧ x = nI (d k) ∧ y = nI k ∧ (∀ j, j < d k → M' (grf G1 o 6) j = (sq nm w v k).2 j) ∧ ∀ q, q ≠ grf G1 o 6 → M' q = M q) ?_ fuel m _ _ M (by unfold fuel; omega) ⟨0, by omega, by rw [d0], rfl, fun j hj => by omega, fun _ _ => rfl⟩
  rintro n rc _ _ M' ⟨k, hk, rfl, rfl, hS, hM⟩ ih
  obtain ⟨e1, e2⟩ := hd k (by omega)
  have e4 := hM _ s1
  have e5 := hM _ s2
  simp (maxSteps := 1000000) (disch := omega) only [vv_e, mm_e, jn_e, bd_e, bd_i, ld_i, st_i, la_i, sl_i, nI_add, pk_mul, pk_sub, ng_add, neg_neg_n, nlt, nle, neq, ng_lt, gn_lt, gg_lt, ng_le, gn_le, gg_le, ng_eq, gn_eq, gg_eq, dv_i, if_pos, if_neg, ite_tt, ite_ff, if_b2, if_b2n, l_0, l_1, l_2, l_3, l_4, l_5, l_6, l_7, l_8, l_9, l_10, l_11, l_12, l_13, l_16, l_20, l_24, l_30, l_32, l_33, l_38, l_42, l_43, l_45, l_47, l_48, l_50, l_57, l_60, l_61, l_62, l_96, l_97, l_99, l_100, l_102, l_105, l_110, l_121, l_122, l_124, l_128, l_200, l_255, l_270, l_350, l_360, l_400, l_440, l_490, l_500, l_999, l_1000, l_9999, l_10000, l_99999, l_100000, l_1000000, l_1000000001, l_1000000002, l_1000000003, l_1000000005, l_1000000011, l_1000000012, l_1000000013, l_1000000014, e4, e5, hl]
  by_cases hkm : k = m
  · subst hkm
    simp (maxSteps := 1000000) (disch := omega) only [vv_e, mm_e, jn_e, bd_e, bd_i, ld_i, st_i, la_i, sl_i, nI_add, pk_mul, pk_sub, ng_add, neg_neg_n, nlt, nle, neq, ng_lt, gn_lt, gg_lt, ng_le, gn_le, gg_le, ng_eq, gn_eq, gg_eq, dv_i, if_pos, if_neg, ite_tt, ite_ff, if_b2, if_b2n, l_0, l_1, l_2, l_3, l_4, l_5, l_6, l_7, l_8, l_9, l_10, l_11, l_12, l_13, l_16, l_20, l_24, l_30, l_32, l_33, l_38, l_42, l_43, l_45, l_47, l_48, l_50, l_57, l_60, l_61, l_62, l_96, l_97, l_99, l_100, l_102, l_105, l_110, l_121, l_122, l_124, l_128, l_200, l_255, l_270, l_350, l_360, l_400, l_440, l_490, l_500, l_999, l_1000, l_9999, l_10000, l_99999, l_100000, l_1000000, l_1000000001, l_1000000002, l_1000000003, l_1000000005, l_1000000011, l_1000000012, l_1000000013, l_1000000014, dm]
    refine Res.mk ⟨?_, hM⟩
    exact hS 0 (by omega)
  have ih' := ih (n - 1)
  rcases step_cases (hst k (by omega)) with ⟨u, hu, h1, h2, h3, h4⟩ | ⟨i, u, hu, h1, h2, h3, h4⟩ | ⟨h1, h2, h3, h4, h5⟩ | ⟨u, hu, h1, h2, h3, h4, h5⟩
  · simp (maxSteps := 1000000) (disch := omega) only [vv_e, mm_e, jn_e, bd_e, bd_i, ld_i, st_i, la_i, sl_i, nI_add, pk_mul, pk_sub, ng_add, neg_neg_n, nlt, nle, neq, ng_lt, gn_lt, gg_lt, ng_le, gn_le, gg_le, ng_eq, gn_eq, gg_eq, dv_i, if_pos, if_neg, ite_tt, ite_ff, if_b2, if_b2n, l_0, l_1, l_2, l_3, l_4, l_5, l_6, l_7, l_8, l_9, l_10, l_11, l_12, l_13, l_16, l_20, l_24, l_30, l_32, l_33, l_38, l_42, l_43, l_45, l_47, l_48, l_50, l_57, l_60, l_61, l_62, l_96, l_97, l_99, l_100, l_102, l_105, l_110, l_121, l_122, l_124, l_128, l_200, l_255, l_270, l_350, l_360, l_400, l_440, l_490, l_500, l_999, l_1000, l_9999, l_10000, l_99999, l_100000, l_1000000, l_1000000001, l_1000000002, l_1000000003, l_1000000005, l_1000000011, l_1000000012, l_1000000013, l_1000000014, h1]
    refine ih' _ _ _ (by omega) ⟨k + 1, by omega, by rw [h4], rfl, ?_, fun q hq => by rw [up_ne hq]; exact hM q hq⟩
    rw [sq, h2, sg0, e1, up_at, h4, h3]
    exact upd_cg (fun j hj hj' => hS j (by omega))
  · obtain ⟨b1, b2, b3⟩ := hu.b
    have hh : Res (fun r M' => r = ev nm w v m ∧ ∀ q, q ≠ grf G1 o 6 → M' q = M q) (rc (nI (d k + 1)) (nI (k + 1)) (up M' (grf G1 o 6) (d k) (nm (nI u)))) := by
      refine ih' _ _ _ (by omega) ⟨k + 1, by omega, by rw [h4], rfl, ?_, fun q hq => by rw [up_ne hq]; exact hM q hq⟩
      rw [sq, h2, sg1, e1, up_at, h4, h3]
      exact upd_cg (fun j hj hj' => hS j (by omega))
    rcases hn i u hu with ⟨rfl, q1⟩ | ⟨rfl, q1⟩ | ⟨rfl, q1⟩
    · simp (maxSteps := 1000000) (disch := omega) only [vv_e, mm_e, jn_e, bd_e, bd_i, ld_i, st_i, la_i, sl_i, nI_add, pk_mul, pk_sub, ng_add, neg_neg_n, nlt, nle, neq, ng_lt, gn_lt, gg_lt, ng_le, gn_le, gg_le, ng_eq, gn_eq, gg_eq, dv_i, if_pos, if_neg, ite_tt, ite_ff, if_b2, if_b2n, l_0, l_1, l_2, l_3, l_4, l_5, l_6, l_7, l_8, l_9, l_10, l_11, l_12, l_13, l_16, l_20, l_24, l_30, l_32, l_33, l_38, l_42, l_43, l_45, l_47, l_48, l_50, l_57, l_60, l_61, l_62, l_96, l_97, l_99, l_100, l_102, l_105, l_110, l_121, l_122, l_124, l_128, l_200, l_255, l_270, l_350, l_360, l_400, l_440, l_490, l_500, l_999, l_1000, l_9999, l_10000, l_99999, l_100000, l_1000000, l_1000000001, l_1000000002, l_1000000003, l_1000000005, l_1000000011, l_1000000012, l_1000000013, l_1000000014, h1]
      rw [q1] at hh
      exact hh
    · simp (maxSteps := 1000000) (disch := omega) only [vv_e, mm_e, jn_e, bd_e, bd_i, ld_i, st_i, la_i, sl_i, nI_add, pk_mul, pk_sub, ng_add, neg_neg_n, nlt, nle, neq, ng_lt, gn_lt, gg_lt, ng_le, gn_le, gg_le, ng_eq, gn_eq, gg_eq, dv_i, if_pos, if_neg, ite_tt, ite_ff, if_b2, if_b2n, l_0, l_1, l_2, l_3, l_4, l_5, l_6, l_7, l_8, l_9, l_10, l_11, l_12, l_13, l_16, l_20, l_24, l_30, l_32, l_33, l_38, l_42, l_43, l_45, l_47, l_48, l_50, l_57, l_60, l_61, l_62, l_96, l_97, l_99, l_100, l_102, l_105, l_110, l_121, l_122, l_124, l_128, l_200, l_255, l_270, l_350, l_360, l_400, l_440, l_490, l_500, l_999, l_1000, l_9999, l_10000, l_99999, l_100000, l_1000000, l_1000000001, l_1000000002, l_1000000003, l_1000000005, l_1000000011, l_1000000012, l_1000000013, l_1000000014, h1]
      rw [q1] at hh
      exact hh
    · simp (maxSteps := 1000000) (disch := omega) only [vv_e, mm_e, jn_e, bd_e, bd_i, ld_i, st_i, la_i, sl_i, nI_add, pk_mul, pk_sub, ng_add, neg_neg_n, nlt, nle, neq, ng_lt, gn_lt, gg_lt, ng_le, gn_le, gg_le, ng_eq, gn_eq, gg_eq, dv_i, if_pos, if_neg, ite_tt, ite_ff, if_b2, if_b2n, l_0, l_1, l_2, l_3, l_4, l_5, l_6, l_7, l_8, l_9, l_10, l_11, l_12, l_13, l_16, l_20, l_24, l_30, l_32, l_33, l_38, l_42, l_43, l_45, l_47, l_48, l_50, l_57, l_60, l_61, l_62, l_96, l_97, l_99, l_100, l_102, l_105, l_110, l_121, l_122, l_124, l_128, l_200, l_255, l_270, l_350, l_360, l_400, l_440, l_490, l_500, l_999, l_1000, l_9999, l_10000, l_99999, l_100000, l_1000000, l_1000000001, l_1000000002, l_1000000003, l_1000000005, l_1000000011, l_1000000012, l_1000000013, l_1000000014, h1]
      rw [q1] at hh
      exact hh
  · simp (maxSteps := 1000000) (disch := omega) only [vv_e, mm_e, jn_e, bd_e, bd_i, ld_i, st_i, la_i, sl_i, nI_add, pk_mul, pk_sub, ng_add, neg_neg_n, nlt, nle, neq, ng_lt, gn_lt, gg_lt, ng_le, gn_le, gg_le, ng_eq, gn_eq, gg_eq, dv_i, if_pos, if_neg, ite_tt, ite_ff, if_b2, if_b2n, l_0, l_1, l_2, l_3, l_4, l_5, l_6, l_7, l_8, l_9, l_10, l_11, l_12, l_13, l_16, l_20, l_24, l_30, l_32, l_33, l_38, l_42, l_43, l_45, l_47, l_48, l_50, l_57, l_60, l_61, l_62, l_96, l_97, l_99, l_100, l_102, l_105, l_110, l_121, l_122, l_124, l_128, l_200, l_255, l_270, l_350, l_360, l_400, l_440, l_490, l_500, l_999, l_1000, l_9999, l_10000, l_99999, l_100000, l_1000000, l_1000000001, l_1000000002, l_1000000003, l_1000000005, l_1000000011, l_1000000012, l_1000000013, l_1000000014, h1]
    have hh : Res (fun r M' => r = ev nm w v m ∧ ∀ q, q ≠ grf G1 o 6 → M' q = M q) (rc (nI (d k)) (nI (k + 1)) (up M' (grf G1 o 6) (d k - 1) (if M' (grf G1 o 6) (d k - 1) = nI 0 then nI 1 else nI 0))) := by
      refine ih' _ _ _ (by omega) ⟨k + 1, by omega, by rw [h5], rfl, ?_, fun q hq => by rw [up_ne hq]; exact hM q hq⟩
      rw [sq, h2, h3, sg2, e1, up_at, h5, hS (d k - 1) (by omega)]
      exact upd_cg (fun j hj hj' => hS j (by omega))
    by_cases hz : M' (grf G1 o 6) (d k - 1) = nI 0
    · rw [if_pos hz] at hh ⊢
      exact hh
    · rw [if_neg hz] at hh ⊢
      exact hh
  · have hub : u < 200 ∧ u ≠ 33 ∧ 3 < u := by unfold sgnN at hu; omega
    simp (maxSteps := 1000000) (disch := omega) only [vv_e, mm_e, jn_e, bd_e, bd_i, ld_i, st_i, la_i, sl_i, nI_add, pk_mul, pk_sub, ng_add, neg_neg_n, nlt, nle, neq, ng_lt, gn_lt, gg_lt, ng_le, gn_le, gg_le, ng_eq, gn_eq, gg_eq, dv_i, if_pos, if_neg, ite_tt, ite_ff, if_b2, if_b2n, l_0, l_1, l_2, l_3, l_4, l_5, l_6, l_7, l_8, l_9, l_10, l_11, l_12, l_13, l_16, l_20, l_24, l_30, l_32, l_33, l_38, l_42, l_43, l_45, l_47, l_48, l_50, l_57, l_60, l_61, l_62, l_96, l_97, l_99, l_100, l_102, l_105, l_110, l_121, l_122, l_124, l_128, l_200, l_255, l_270, l_350, l_360, l_400, l_440, l_490, l_500, l_999, l_1000, l_9999, l_10000, l_99999, l_100000, l_1000000, l_1000000001, l_1000000002, l_1000000003, l_1000000005, l_1000000011, l_1000000012, l_1000000013, l_1000000014, h1, x_join u _ _ _ hu]
    refine ih' _ _ _ (by omega) ⟨k + 1, by omega, by rw [show d k - 1 = d (k + 1) by omega], rfl, ?_, fun q hq => by rw [up_ne hq]; exact hM q hq⟩
    rw [sq, h2, h3, sg3 nm u hu, e1, up_at, hS (d k - 2) (by omega), hS (d k - 1) (by omega)]
    exact upd_cg (fun j hj hj' => hS j (by omega))
