theorem gb_0_0 {b : Nat} (hb : b = 1 ∨ b = 31) : grf G1 b 0 = b + 1 := by rcases hb with rfl | rfl <;> rfl
theorem gb_0_1 {b : Nat} (hb : b = 1 ∨ b = 31) : grf G1 b 1 = b + 8 := by rcases hb with rfl | rfl <;> rfl
theorem gb_0_2 {b : Nat} (hb : b = 1 ∨ b = 31) : grf G1 b 2 = b + 15 := by rcases hb with rfl | rfl <;> rfl
theorem gb_0_3 {b : Nat} (hb : b = 1 ∨ b = 31) : grf G1 b 3 = b + 18 := by rcases hb with rfl | rfl <;> rfl
theorem gb_0_4 {b : Nat} (hb : b = 1 ∨ b = 31) : grf G1 b 4 = b + 23 := by rcases hb with rfl | rfl <;> rfl
theorem gb_0_5 {b : Nat} (hb : b = 1 ∨ b = 31) : grf G1 b 5 = b + 28 := by rcases hb with rfl | rfl <;> rfl
theorem gb_0_9 {b : Nat} (hb : b = 1 ∨ b = 31) : grf G1 b 9 = b + 29 := by rcases hb with rfl | rfl <;> rfl
theorem gb_1_1 {b : Nat} (hb : b = 1 ∨ b = 31) : grf G1 (b + 1) 1 = b + 2 := by rcases hb with rfl | rfl <;> rfl
theorem gb_1_3 {b : Nat} (hb : b = 1 ∨ b = 31) : grf G1 (b + 1) 3 = b + 3 := by rcases hb with rfl | rfl <;> rfl
theorem gb_1_4 {b : Nat} (hb : b = 1 ∨ b = 31) : grf G1 (b + 1) 4 = b + 4 := by rcases hb with rfl | rfl <;> rfl
theorem gb_1_5 {b : Nat} (hb : b = 1 ∨ b = 31) : grf G1 (b + 1) 5 = b + 5 := by rcases hb with rfl | rfl <;> rfl
theorem gb_1_6 {b : Nat} (hb : b = 1 ∨ b = 31) : grf G1 (b + 1) 6 = b + 6 := by rcases hb with rfl | rfl <;> rfl
theorem gb_1_7 {b : Nat} (hb : b = 1 ∨ b = 31) : grf G1 (b + 1) 7 = b + 7 := by rcases hb with rfl | rfl <;> rfl
theorem gb_8_1 {b : Nat} (hb : b = 1 ∨ b = 31) : grf G1 (b + 8) 1 = b + 9 := by rcases hb with rfl | rfl <;> rfl
theorem gb_8_2 {b : Nat} (hb : b = 1 ∨ b = 31) : grf G1 (b + 8) 2 = b + 10 := by rcases hb with rfl | rfl <;> rfl
theorem gb_8_3 {b : Nat} (hb : b = 1 ∨ b = 31) : grf G1 (b + 8) 3 = b + 11 := by rcases hb with rfl | rfl <;> rfl
theorem gb_8_4 {b : Nat} (hb : b = 1 ∨ b = 31) : grf G1 (b + 8) 4 = b + 12 := by rcases hb with rfl | rfl <;> rfl
theorem gb_8_5 {b : Nat} (hb : b = 1 ∨ b = 31) : grf G1 (b + 8) 5 = b + 13 := by rcases hb with rfl | rfl <;> rfl
theorem gb_8_6 {b : Nat} (hb : b = 1 ∨ b = 31) : grf G1 (b + 8) 6 = b + 14 := by rcases hb with rfl | rfl <;> rfl
theorem gb_15_0 {b : Nat} (hb : b = 1 ∨ b = 31) : grf G1 (b + 15) 0 = b + 16 := by rcases hb with rfl | rfl <;> rfl
theorem gb_15_1 {b : Nat} (hb : b = 1 ∨ b = 31) : grf G1 (b + 15) 1 = b + 17 := by rcases hb with rfl | rfl <;> rfl
theorem gb_18_0 {b : Nat} (hb : b = 1 ∨ b = 31) : grf G1 (b + 18) 0 = b + 19 := by rcases hb with rfl | rfl <;> rfl
theorem gb_18_2 {b : Nat} (hb : b = 1 ∨ b = 31) : grf G1 (b + 18) 2 = b + 20 := by rcases hb with rfl | rfl <;> rfl
theorem gb_18_3 {b : Nat} (hb : b = 1 ∨ b = 31) : grf G1 (b + 18) 3 = b + 21 := by rcases hb with rfl | rfl <;> rfl
theorem gb_18_4 {b : Nat} (hb : b = 1 ∨ b = 31) : grf G1 (b + 18) 4 = b + 22 := by rcases hb with rfl | rfl <;> rfl
theorem gb_23_1 {b : Nat} (hb : b = 1 ∨ b = 31) : grf G1 (b + 23) 1 = b + 24 := by rcases hb with rfl | rfl <;> rfl
theorem gb_23_2 {b : Nat} (hb : b = 1 ∨ b = 31) : grf G1 (b + 23) 2 = b + 25 := by rcases hb with rfl | rfl <;> rfl
theorem gb_23_3 {b : Nat} (hb : b = 1 ∨ b = 31) : grf G1 (b + 23) 3 = b + 26 := by rcases hb with rfl | rfl <;> rfl
theorem gb_23_5 {b : Nat} (hb : b = 1 ∨ b = 31) : grf G1 (b + 23) 5 = b + 27 := by rcases hb with rfl | rfl <;> rfl
theorem Res.eq {v : Int32} {M : Mem} {z : Option (Int32 × Mem)} (h : Res (fun r M' => r = v ∧ M' = M) z) : z = some (v, M) := by
  obtain ⟨r, M', e, rfl, rfl⟩ := h
  exact e
theorem OkC.v {M : Mem} {v : Int32} {z : Option (Int32 × Mem)} (h : OkC M v z) : ∃ M', z = some (v, M') ∧ Ec M M' := by
  obtain ⟨r, M', e, rfl, e2⟩ := h
  exact ⟨M', e, e2⟩
theorem OkM.v {N : Mem} {v : Int32} {z : Option (Int32 × Mem)} (h : OkM N v z) : ∃ N', z = some (v, N') ∧ Em N N' := by
  obtain ⟨r, N', e, rfl, e2⟩ := h
  exact ⟨N', e, e2⟩
theorem OkC.tr {M M' : Mem} {v : Int32} {z : Option (Int32 × Mem)} (e : Ec M M') (h : OkC M' v z) : OkC M v z := Res.imp h (fun _ _ q => ⟨q.1, e.trans q.2⟩)
theorem OkM.tr {N N' : Mem} {v : Int32} {z : Option (Int32 × Mem)} (e : Em N N') (h : OkM N' v z) : OkM N v z := Res.imp h (fun _ _ q => ⟨q.1, e.trans q.2⟩)
theorem OkC.inj {M M' : Mem} {v v' : Int32} {z : Option (Int32 × Mem)} (h : OkC M v z) (h' : OkC M' v' z) : v = v' := by
  obtain ⟨r, A, rfl, rfl, e⟩ := h
  obtain ⟨r', A', e', rfl, e2⟩ := h'
  cases e'
  rfl
theorem OkM.inj {M M' : Mem} {v v' : Int32} {z : Option (Int32 × Mem)} (h : OkM M v z) (h' : OkM M' v' z) : v = v' := by
  obtain ⟨r, A, rfl, rfl, e⟩ := h
  obtain ⟨r', A', e', rfl, e2⟩ := h'
  cases e'
  rfl
theorem Ec.symm {M M' : Mem} (h : Ec M M') : Ec M' M := fun a h1 h2 h3 h4 h5 h6 => (h a h1 h2 h3 h4 h5 h6).symm
theorem Em.symm {N N' : Mem} (h : Em N N') : Em N' N := ⟨fun a ha => (h.1 a ha).symm, h.2.1.symm, h.2.2.1.symm, h.2.2.2.symm⟩
/-- what both answer hangs on nothing that is put aside -/
theorem det {M N : Mem} {P : Int32 → Prop} {x y : Mem → Option (Int32 × Mem)} (h : ∀ M' N', Ec M M' → Em N N' → ∃ v, P v ∧ OkC M' v (x M') ∧ OkM N' v (y N')) : ∃ v, P v ∧ (∀ M', Ec M M' → OkC M' v (x M')) ∧ ∀ N', Em N N' → OkM N' v (y N') := by
  obtain ⟨v, p, a, b⟩ := h M N Ec.rfl' Em.rfl'
  refine ⟨v, p, fun M' e => ?_, fun N' e => ?_⟩
  · obtain ⟨v', p', a', b'⟩ := h M' N e Em.rfl'
    rw [b.inj b']
    exact a'
  · obtain ⟨v', p', a', b'⟩ := h M N' Ec.rfl' e
    rw [a.inj a']
    exact b'
def tN (x : Int32) : Nat := x.toNatClampNeg
theorem tN_n {n : Nat} (h : n < 2 ^ 31) : tN (nI n) = n := nI_clamp h
def CT (g : Nat → Int32) (c : Int32) : Option Nat := lastT (fun t => g (500 + 200 * t) = c) (tN (g 2))
def EV (g : Nat → Int32) (t : Nat) (nm : Int32 → Int32) : Int32 := ev nm (fun k => g (504 + 200 * t + 2 * k)) (fun k => g (505 + 200 * t + 2 * k)) (tN (g (502 + 200 * t)))
theorem orN_n' : orN none = -nI 1000000005 := rfl
theorem orM_n' : orM none = -nI 1 := rfl
theorem orM_s (t : Nat) : orM (some t) = nI t := rfl
section
variable {nX b : Nat} {cn : Int32} {key tbl lv len sp g : Nat → Int32} {M N : Mem}
theorem RX.ct (h : RX nX cn key tbl lv len sp g) (c : Int32) : CT g c = lastT (fun t => g (500 + 200 * t) = c) nX := by
  unfold CT
  rw [h.2.1, tN_n (by have := h.2.2.1; omega)]
theorem RX.ct_s (h : RX nX cn key tbl lv len sp g) {c : Int32} {t : Nat} (e : CT g c = some t) : t < nX ∧ g (500 + 200 * t) = c := by
  rw [h.ct] at e
  exact lastT_lt nX t e
theorem x_lat (hb : b = 1 ∨ b = 31) (h : RX nX (M (b + 8) 0) (M (b + 9)) (M (b + 10)) (M (b + 11)) (M (b + 12)) (M (b + 13)) g) (k : Nat) (T c : Int32) (hk : (k = 0 ∧ Rg T 12 ∧ c = T) ∨ (k = 1 ∧ c = nI 12) ∨ (k = 2 ∧ c = nI 13)) : f_X8_latest (b + 8) (nI k) T M = some (orN (CT g c), M) := by
  have e := lat_eq h (nI k) T c (by
    rcases hk with ⟨rfl, q⟩ | ⟨rfl, q⟩ | ⟨rfl, q⟩
    · exact Or.inl ⟨rfl, q⟩
    · exact Or.inr (Or.inl ⟨rfl, q⟩)
    · exact Or.inr (Or.inr ⟨rfl, q⟩))
  have hh := x_latest (b + 8) nX (nI k) T M h.1 h.2.2.1
  rw [hh, h.ct]
  rcases hb with rfl | rfl
  · exact congrArg (fun z => some (orN z, M)) e
  · exact congrArg (fun z => some (orN z, M)) e
theorem y_cnt (h : RX nX cn key tbl lv len sp (N 1)) (c : Int32) : f_X10_counts 0 c N = some (orM (CT (N 1) c), N) := by
  rw [y_counts nX c N h.2.1 h.2.2.1, h.ct]
theorem RX.giv (hb : b = 1 ∨ b = 31) (h : RX nX (M (b + 8) 0) (M (b + 9)) (M (b + 10)) (M (b + 11)) (M (b + 12)) (M (b + 13)) g) {t : Nat} (ht : t < nX) (nm : Int32 → Int32) (a1 a2 a3 : Int32) (hn : ∀ i u, NameOK (M (b + 9) t) i u → (i = 1 ∧ nm (nI u) = a1) ∨ (i = 2 ∧ nm (nI u) = a2) ∨ (i = 3 ∧ nm (nI u) = a3)) : OkC M (EV g t nm) (f_X8_give (b + 8) (nI t) a1 a2 a3 M) := by
  obtain ⟨x1, x2, x3, x4⟩ := id h
  obtain ⟨y1, y2, m, hm, y3, y4, d, d0, dm, hs⟩ := x4 t ht
  have e4 := gb_8_4 hb
  have e5 := gb_8_5 hb
  have e6 := gb_8_6 hb
  obtain ⟨r, M', e, rfl, hM⟩ := x_give (b + 8) nX t m a1 a2 a3 nm M (M (b + 9) t) (fun k => g (504 + 200 * t + 2 * k)) (fun k => g (505 + 200 * t + 2 * k)) d (by rw [e4, e6]; omega) (by rw [e5, e6]; omega) x1 x3 ht (by rw [e4]; exact y3) hm d0 dm (fun k hk => by rw [e5, Nat.mul_comm t 96]; exact hs k hk) hn
  rw [e6] at hM
  refine ⟨_, M', e, ?_, fun q h1 h2 h3 h4 h5 h6 => hM q (by omega)⟩
  unfold EV
  rw [y4, tN_n (by omega)]
theorem Em.of14 {N' : Mem} (h : ∀ q, q ≠ 14 → N' q = N q) : Em N N' := ⟨fun a ha => h a (by omega), by rw [h 0 (by omega)], by rw [h 0 (by omega)], by rw [h 0 (by omega)]⟩
theorem RX.wrk (h : RX nX cn key tbl lv len sp (N 1)) {t : Nat} (ht : t < nX) (nm : Int32 → Int32) (hn : ∀ i u, NameOK (key t) i u → N 13 u = nm (nI u)) : OkM N (EV (N 1) t nm) (f_X10_worked 0 (nI t) N) := by
  obtain ⟨x1, x2, x3, x4⟩ := id h
  obtain ⟨y1, y2, m, hm, y3, y4, d, d0, dm, hs⟩ := x4 t ht
  obtain ⟨r, N', e, rfl, hM⟩ := y_worked t m nm N (key t) (fun k => sp (96 * t + k)) (fun k => N 1 (504 + 200 * t + 2 * k)) (fun k => N 1 (505 + 200 * t + 2 * k)) d (by omega) (by rw [show 500 + 200 * t + 2 = 502 + 200 * t by omega]; exact y4) hm (fun k hk => ⟨by rw [show 500 + 200 * t + 4 + 2 * k = 504 + 200 * t + 2 * k by omega], by rw [show 500 + 200 * t + 4 + 2 * k + 1 = 505 + 200 * t + 2 * k by omega]⟩) d0 dm (fun k hk => hs k hk) hn
  refine ⟨_, N', e, ?_, Em.of14 hM⟩
  unfold EV
  rw [y4, tN_n (by omega)]
theorem RX.key1 (h : RX nX cn key tbl lv len sp g) {t : Nat} (ht : t < nX) (e : g (500 + 200 * t) = nI 12) : key t = 1 := by
  obtain ⟨a1, -⟩ := h.2.2.2 t ht
  rcases a1 with ⟨b1, ⟨k, hk, b2⟩, b3⟩ | ⟨b1, b2, b3⟩ | ⟨b1, b2, b3⟩
  · rw [b3, b2] at e
    have := (nI_eq (by omega) (by omega)).mp e
    omega
  · exact b1
  · rw [b3] at e
    exact absurd e (by decide)
theorem RX.key2 (h : RX nX cn key tbl lv len sp g) {t : Nat} (ht : t < nX) (e : g (500 + 200 * t) = nI 13) : key t = 2 := by
  obtain ⟨a1, -⟩ := h.2.2.2 t ht
  rcases a1 with ⟨b1, ⟨k, hk, b2⟩, b3⟩ | ⟨b1, b2, b3⟩ | ⟨b1, b2, b3⟩
  · rw [b3, b2] at e
    have := (nI_eq (by omega) (by omega)).mp e
    omega
  · rw [b3] at e
    exact absurd e (by decide)
  · exact b1
theorem RX.key0 (h : RX nX cn key tbl lv len sp g) {t T : Nat} (ht : t < nX) (hT : T < 12) (e : g (500 + 200 * t) = nI T) : key t = 0 := by
  obtain ⟨a1, -⟩ := h.2.2.2 t ht
  rcases a1 with ⟨b1, ⟨k, hk, b2⟩, b3⟩ | ⟨b1, b2, b3⟩ | ⟨b1, b2, b3⟩
  · exact b1
  · rw [b3] at e
    have := (nI_eq (a := 12) (by omega) (by omega)).mp e
    omega
  · rw [b3] at e
    have := (nI_eq (a := 13) (by omega) (by omega)).mp e
    omega
end
def hold (v : Int32) : Int32 := if v < nI 0 then nI 0 else if nI 9999 < v then nI 9999 else v
theorem x_hold (v : Int32) (M : Mem) : f_X9_holdWithin v (nI 0) (nI 9999) M = some (hold v, M) := by
  unfold f_X9_holdWithin hold
  by_cases h : v < nI 0
  · rw [if_pos h, if_pos h]
  · rw [if_neg h, if_neg h]
    split <;> rfl
theorem y_held (v : Int32) (M : Mem) : f_X10_heldIn v (nI 9999) M = some (hold v, M) := by
  unfold f_X10_heldIn hold
  rw [l_0]
  by_cases h : v < nI 0
  · rw [if_pos h, if_pos h]
  · rw [if_neg h, if_neg h]
    split <;> rfl
theorem hold_rg (v : Int32) : ∃ s, s ≤ 9999 ∧ hold v = nI s := by
  unfold hold
  by_cases h : v < nI 0
  · exact ⟨0, by omega, if_pos h⟩
  · rw [if_neg h]
    by_cases h2 : nI 9999 < v
    · exact ⟨9999, by omega, if_pos h2⟩
    · rw [if_neg h2]
      obtain ⟨j, hj, rfl⟩ := nI_of h
      refine ⟨j, ?_, rfl⟩
      rw [nlt (by omega) hj] at h2
      omega
section
variable {nT nF nX nC nE nL nS b : Nat} {M N : Mem}
theorem spread_eq (hb : b = 1 ∨ b = 31) (h : RS nT nF nX nC nE nL nS M b (N 1)) (p : Nat) (hp : 0 < p) (hp2 : p < 1000) (y : Int32) : ∃ s, s ≤ 10000 ∧ OkC M (nI s) (f_X6_spreadFor b (nI p) y M) ∧ OkM N (nI s) (f_X10_spreadFor 0 (nI p) y N) := by
  obtain ⟨hT, hF, hX, -⟩ := h
  have e1 := x_lat hb hX 1 (nI 0) (nI 12) (Or.inr (Or.inl ⟨rfl, rfl⟩))
  have e2 := y_cnt hX (nI 12)
  cases hC : CT (N 1) (nI 12) with
  | none =>
    rw [hC] at e1 e2
    refine ⟨10000 / p, Nat.div_le_self _ _, ?_, ?_⟩
    · unfold f_X6_spreadFor
      simp (maxSteps := 1000000) (disch := omega) only [vv_e, mm_e, jn_e, bd_e, bd_i, gb_0_0, gb_0_1, gb_0_2, gb_0_3, gb_0_4, gb_0_5, gb_0_9, gb_1_1, gb_1_3, gb_1_4, gb_1_5, gb_1_6, gb_1_7, gb_8_1, gb_8_2, gb_8_3, gb_8_4, gb_8_5, gb_8_6, gb_15_0, gb_15_1, gb_18_0, gb_18_2, gb_18_3, gb_18_4, gb_23_1, gb_23_2, gb_23_3, gb_23_5, e1, orN_n', ld_i, st_i, la_i, sl_i, nI_add, pk_mul, pk_sub, ng_add, neg_neg_n, nlt, nle, neq, ng_lt, gn_lt, gg_lt, ng_le, gn_le, gg_le, ng_eq, gn_eq, gg_eq, dv_i, if_pos, if_neg, ite_tt, ite_ff, if_b2, if_b2n, l_0, l_1, l_2, l_3, l_4, l_5, l_6, l_7, l_8, l_9, l_10, l_11, l_12, l_13, l_16, l_20, l_24, l_30, l_32, l_33, l_38, l_42, l_43, l_45, l_47, l_48, l_50, l_57, l_60, l_61, l_62, l_96, l_97, l_99, l_100, l_102, l_105, l_110, l_121, l_122, l_124, l_128, l_200, l_255, l_270, l_350, l_360, l_400, l_440, l_490, l_500, l_999, l_1000, l_9999, l_10000, l_99999, l_100000, l_1000000, l_1000000001, l_1000000002, l_1000000003, l_1000000005, l_1000000011, l_1000000012, l_1000000013, l_1000000014, pk_div]
      exact OkC.mk Ec.rfl'
    · unfold f_X10_spreadFor
      simp (maxSteps := 1000000) (disch := omega) only [vv_e, mm_e, jn_e, bd_e, bd_i, e2_0_0, e2_0_1, e2_0_2, e2_0_4, e2_0_5, e2_0_6, e2_0_7, e2_0_8, e2_0_9, e2_0_10, e2_0_11, e2_0_12, e2_0_24, e2_0_25, e2_0_28, e2_0_29, e2_0_30, e2_0_34, e2_0_35, e2_0_36, e2_0_38, e2, orM_n', ld_i, st_i, la_i, sl_i, nI_add, pk_mul, pk_sub, ng_add, neg_neg_n, nlt, nle, neq, ng_lt, gn_lt, gg_lt, ng_le, gn_le, gg_le, ng_eq, gn_eq, gg_eq, dv_i, if_pos, if_neg, ite_tt, ite_ff, if_b2, if_b2n, l_0, l_1, l_2, l_3, l_4, l_5, l_6, l_7, l_8, l_9, l_10, l_11, l_12, l_13, l_16, l_20, l_24, l_30, l_32, l_33, l_38, l_42, l_43, l_45, l_47, l_48, l_50, l_57, l_60, l_61, l_62, l_96, l_97, l_99, l_100, l_102, l_105, l_110, l_121, l_122, l_124, l_128, l_200, l_255, l_270, l_350, l_360, l_400, l_440, l_490, l_500, l_999, l_1000, l_9999, l_10000, l_99999, l_100000, l_1000000, l_1000000001, l_1000000002, l_1000000003, l_1000000005, l_1000000011, l_1000000012, l_1000000013, l_1000000014, pk_div]
      exact OkM.mk ((Em.rfl'.u (by omega)).u (by omega))
  | some t =>
    rw [hC] at e1 e2
    obtain ⟨ht, hg⟩ := hX.ct_s hC
    have hk := hX.key1 ht hg
    have hn : nX ≤ 14 := hX.2.2.1
    obtain ⟨s, hs, es⟩ := hold_rg (EV (N 1) t (fun v => if v = nI 110 then nI p else y))
    refine ⟨s, by omega, ?_, ?_⟩
    · unfold f_X6_spreadFor
      simp (maxSteps := 1000000) (disch := omega) only [vv_e, mm_e, jn_e, bd_e, bd_i, gb_0_0, gb_0_1, gb_0_2, gb_0_3, gb_0_4, gb_0_5, gb_0_9, gb_1_1, gb_1_3, gb_1_4, gb_1_5, gb_1_6, gb_1_7, gb_8_1, gb_8_2, gb_8_3, gb_8_4, gb_8_5, gb_8_6, gb_15_0, gb_15_1, gb_18_0, gb_18_2, gb_18_3, gb_18_4, gb_23_1, gb_23_2, gb_23_3, gb_23_5, e1, orN_s, ld_i, st_i, la_i, sl_i, nI_add, pk_mul, pk_sub, ng_add, neg_neg_n, nlt, nle, neq, ng_lt, gn_lt, gg_lt, ng_le, gn_le, gg_le, ng_eq, gn_eq, gg_eq, dv_i, if_pos, if_neg, ite_tt, ite_ff, if_b2, if_b2n, l_0, l_1, l_2, l_3, l_4, l_5, l_6, l_7, l_8, l_9, l_10, l_11, l_12, l_13, l_16, l_20, l_24, l_30, l_32, l_33, l_38, l_42, l_43, l_45, l_47, l_48, l_50, l_57, l_60, l_61, l_62, l_96, l_97, l_99, l_100, l_102, l_105, l_110, l_121, l_122, l_124, l_128, l_200, l_255, l_270, l_350, l_360, l_400, l_440, l_490, l_500, l_999, l_1000, l_9999, l_10000, l_99999, l_100000, l_1000000, l_1000000001, l_1000000002, l_1000000003, l_1000000005, l_1000000011, l_1000000012, l_1000000013, l_1000000014]
      refine OkC.then (hX.giv hb ht (fun v => if v = nI 110 then nI p else y) (nI p) y _ (fun i u hu => ?_)) (fun M' e => ?_)
      · rw [hk] at hu
        rcases hu with ⟨q, -⟩ | ⟨-, ⟨rfl, rfl⟩ | ⟨rfl, rfl⟩⟩ | ⟨q, -⟩
        · exact absurd q (by decide)
        · exact Or.inl ⟨rfl, if_pos rfl⟩
        · exact Or.inr (Or.inl ⟨rfl, if_neg (by decide)⟩)
        · exact absurd q (by decide)
      · simp only [vv_e, mm_e, jn_e, bd_e, bd_i, x_hold, es]
        exact OkC.mk e
    · unfold f_X10_spreadFor
      simp (maxSteps := 1000000) (disch := omega) only [vv_e, mm_e, jn_e, bd_e, bd_i, e2_0_0, e2_0_1, e2_0_2, e2_0_4, e2_0_5, e2_0_6, e2_0_7, e2_0_8, e2_0_9, e2_0_10, e2_0_11, e2_0_12, e2_0_24, e2_0_25, e2_0_28, e2_0_29, e2_0_30, e2_0_34, e2_0_35, e2_0_36, e2_0_38, e2, orM_s, ld_i, st_i, la_i, sl_i, nI_add, pk_mul, pk_sub, ng_add, neg_neg_n, nlt, nle, neq, ng_lt, gn_lt, gg_lt, ng_le, gn_le, gg_le, ng_eq, gn_eq, gg_eq, dv_i, if_pos, if_neg, ite_tt, ite_ff, if_b2, if_b2n, l_0, l_1, l_2, l_3, l_4, l_5, l_6, l_7, l_8, l_9, l_10, l_11, l_12, l_13, l_16, l_20, l_24, l_30, l_32, l_33, l_38, l_42, l_43, l_45, l_47, l_48, l_50, l_57, l_60, l_61, l_62, l_96, l_97, l_99, l_100, l_102, l_105, l_110, l_121, l_122, l_124, l_128, l_200, l_255, l_270, l_350, l_360, l_400, l_440, l_490, l_500, l_999, l_1000, l_9999, l_10000, l_99999, l_100000, l_1000000, l_1000000001, l_1000000002, l_1000000003, l_1000000005, l_1000000011, l_1000000012, l_1000000013, l_1000000014]
      have eE : Em N (up (up N 13 110 (nI p)) 13 121 y) := (Em.rfl'.u (by omega)).u (by omega)
      refine OkM.tr eE ?_
      refine OkM.then (RX.wrk (N := up (up N 13 110 (nI p)) 13 121 y) hX ht (fun v => if v = nI 110 then nI p else y) (fun i u hu => ?_)) (fun N' e => ?_)
      · rw [hk] at hu
        rcases hu with ⟨q, -⟩ | ⟨-, ⟨rfl, rfl⟩ | ⟨rfl, rfl⟩⟩ | ⟨q, -⟩
        · exact absurd q (by decide)
        · rw [if_pos rfl, up_k _ _ _ _ _ (by decide), up_same]
        · rw [if_neg (by decide), up_same]
        · exact absurd q (by decide)
      · show OkM _ (nI s) (bd (f_X10_heldIn (EV (N 1) t (fun v => if v = nI 110 then nI p else y)) (nI 9999) N') _)
        simp only [vv_e, mm_e, jn_e, bd_e, bd_i, y_held, es]
        exact OkM.mk e
theorem RF.fig {cn : Int32} {tb kd vl pr fr g : Nat → Int32} (h : RF nT nF cn tb kd vl pr fr g) {f : Nat} (hf : f < nF) : ∃ t k v p, t < nT ∧ k < 8 ∧ v < 10000 ∧ 0 < p ∧ p < 1000 ∧ tb f = nI t ∧ kd f = nI k ∧ vl f = nI v ∧ pr f = nI p ∧ g (30 + 6 * f) = nI t ∧ g (30 + 6 * f + 1) = nI k ∧ g (30 + 6 * f + 2) = nI v ∧ g (30 + 6 * f + 3) = nI p ∧ g (30 + 6 * f + 4) = fr f ∧ (fr f = -nI 1 ∨ ∃ f', f' < f ∧ fr f = nI f') := by
  obtain ⟨h1, h2, h3, h4⟩ := h
  obtain ⟨⟨a1, a2, a3, a4, a5⟩, ⟨t, ht, b1⟩, ⟨k, hk, b2⟩, ⟨v, hv, b3⟩, ⟨⟨p, hp, b4⟩, b5⟩, b6⟩ := h4 f hf
  refine ⟨t, k, v, p, ht, hk, hv, ?_, hp, b1, b2, b3, b4, a1.trans b1, ?_, ?_, ?_, ?_, ?_⟩
  · rcases Nat.eq_zero_or_pos p with q | q
    · subst q; exact absurd b4 b5
    · exact q
  · rw [show 30 + 6 * f + 1 = 31 + 6 * f by omega]; exact a2.trans b2
  · rw [show 30 + 6 * f + 2 = 32 + 6 * f by omega]; exact a3.trans b3
  · rw [show 30 + 6 * f + 3 = 33 + 6 * f by omega]; exact a4.trans b4
  · rw [show 30 + 6 * f + 4 = 34 + 6 * f by omega]; exact a5
  · rcases b6 with q | ⟨f', q1, q2⟩
    · exact Or.inl q
    · exact Or.inr ⟨f', q1, q2⟩
def cntE (h : Nat → Int32) (c : Int32) : Nat → Nat
  | 0 => 0
  | n + 1 => cntE h c n + (if h n = c then 1 else 0)
theorem cntE_congr {f g : Nat → Int32} {c : Int32} : ∀ n, (∀ k, k < n → f k = g k) → cntE f c n = cntE g c n
  | 0, _ => rfl
  | n + 1, h => by rw [cntE, cntE, cntE_congr n (fun k hk => h k (by omega)), h n (by omega)]
theorem cntE_le {f : Nat → Int32} {c : Int32} : ∀ n, cntE f c n ≤ n
  | 0 => Nat.le_refl 0
  | n + 1 => by
    rw [cntE]
    have := cntE_le (f := f) (c := c) n
    split <;> omega
theorem x_ahead (o f : Nat) (M : Mem) (hf : f < 40) : f_X0_aheadOf o (nI f) M = some (nI (cntE (M (grf G1 o 3)) (M (grf G1 o 3) f) f), M) := by
  apply Res.eq
  unfold f_X0_aheadOf
  simp (maxSteps := 1000000) (disch := omega) only [vv_e, mm_e, jn_e, bd_e, bd_i, ld_i, st_i, la_i, sl_i, nI_add, pk_mul, pk_sub, ng_add, neg_neg_n, nlt, nle, neq, ng_lt, gn_lt, gg_lt, ng_le, gn_le, gg_le, ng_eq, gn_eq, gg_eq, dv_i, if_pos, if_neg, ite_tt, ite_ff, if_b2, if_b2n, l_0, l_1, l_2, l_3, l_4, l_5, l_6, l_7, l_8, l_9, l_10, l_11, l_12, l_13, l_16, l_20, l_24, l_30, l_32, l_33, l_38, l_42, l_43, l_45, l_47, l_48, l_50, l_57, l_60, l_61, l_62, l_96, l_97, l_99, l_100, l_102, l_105, l_110, l_121, l_122, l_124, l_128, l_200, l_255, l_270, l_350, l_360, l_400, l_440, l_490, l_500, l_999, l_1000, l_9999, l_10000, l_99999, l_100000, l_1000000, l_1000000001, l_1000000002, l_1000000003, l_1000000005, l_1000000011, l_1000000012, l_1000000013, l_1000000014]
  refine lo2 (fun n x y M' => ∃ k, k + n = f ∧ x = nI (cntE (M (grf G1 o 3)) (M (grf G1 o 3) f) k) ∧ y = nI k ∧ M' = M) ?_ fuel f _ _ M (by unfold fuel; omega) ⟨0, by omega, rfl, rfl, rfl⟩
  rintro n rc _ _ M' ⟨k, hk, rfl, rfl, hM⟩ ih
  rw [hM]
  simp (maxSteps := 1000000) (disch := omega) only [vv_e, mm_e, jn_e, bd_e, bd_i, ld_i, st_i, la_i, sl_i, nI_add, pk_mul, pk_sub, ng_add, neg_neg_n, nlt, nle, neq, ng_lt, gn_lt, gg_lt, ng_le, gn_le, gg_le, ng_eq, gn_eq, gg_eq, dv_i, if_pos, if_neg, ite_tt, ite_ff, if_b2, if_b2n, l_0, l_1, l_2, l_3, l_4, l_5, l_6, l_7, l_8, l_9, l_10, l_11, l_12, l_13, l_16, l_20, l_24, l_30, l_32, l_33, l_38, l_42, l_43, l_45, l_47, l_48, l_50, l_57, l_60, l_61, l_62, l_96, l_97, l_99, l_100, l_102, l_105, l_110, l_121, l_122, l_124, l_128, l_200, l_255, l_270, l_350, l_360, l_400, l_440, l_490, l_500, l_999, l_1000, l_9999, l_10000, l_99999, l_100000, l_1000000, l_1000000001, l_1000000002, l_1000000003, l_1000000005, l_1000000011, l_1000000012, l_1000000013, l_1000000014]
  by_cases hkf : k = f
  · subst hkf
    simp (maxSteps := 1000000) (disch := omega) only [ld_i, st_i, la_i, sl_i, nI_add, pk_mul, pk_sub, ng_add, neg_neg_n, nlt, nle, neq, ng_lt, gn_lt, gg_lt, ng_le, gn_le, gg_le, ng_eq, gn_eq, gg_eq, dv_i, if_pos, if_neg, ite_tt, ite_ff, if_b2, if_b2n, l_0, l_1, l_2, l_3, l_4, l_5, l_6, l_7, l_8, l_9, l_10, l_11, l_12, l_13, l_16, l_20, l_24, l_30, l_32, l_33, l_38, l_42, l_43, l_45, l_47, l_48, l_50, l_57, l_60, l_61, l_62, l_96, l_97, l_99, l_100, l_102, l_105, l_110, l_121, l_122, l_124, l_128, l_200, l_255, l_270, l_350, l_360, l_400, l_440, l_490, l_500, l_999, l_1000, l_9999, l_10000, l_99999, l_100000, l_1000000, l_1000000001, l_1000000002, l_1000000003, l_1000000005, l_1000000011, l_1000000012, l_1000000013, l_1000000014]
    exact Res.mk ⟨rfl, rfl⟩
  · have c := cntE_le (f := M (grf G1 o 3)) (c := M (grf G1 o 3) f) k
    simp (maxSteps := 1000000) (disch := omega) only [ld_i, st_i, la_i, sl_i, nI_add, pk_mul, pk_sub, ng_add, neg_neg_n, nlt, nle, neq, ng_lt, gn_lt, gg_lt, ng_le, gn_le, gg_le, ng_eq, gn_eq, gg_eq, dv_i, if_pos, if_neg, ite_tt, ite_ff, if_b2, if_b2n, l_0, l_1, l_2, l_3, l_4, l_5, l_6, l_7, l_8, l_9, l_10, l_11, l_12, l_13, l_16, l_20, l_24, l_30, l_32, l_33, l_38, l_42, l_43, l_45, l_47, l_48, l_50, l_57, l_60, l_61, l_62, l_96, l_97, l_99, l_100, l_102, l_105, l_110, l_121, l_122, l_124, l_128, l_200, l_255, l_270, l_350, l_360, l_400, l_440, l_490, l_500, l_999, l_1000, l_9999, l_10000, l_99999, l_100000, l_1000000, l_1000000001, l_1000000002, l_1000000003, l_1000000005, l_1000000011, l_1000000012, l_1000000013, l_1000000014]
    by_cases he : M (grf G1 o 3) k = M (grf G1 o 3) f
    · rw [if_pos he]
      exact ih (n - 1) _ _ _ (by omega) ⟨k + 1, by omega, by rw [cntE, if_pos he], rfl, rfl⟩
    · rw [if_neg he]
      exact ih (n - 1) _ _ _ (by omega) ⟨k + 1, by omega, by rw [cntE, if_neg he]; rfl, rfl, rfl⟩
end
