def cI (o : Option Nat) : Int32 := match o with
  | none => -nI 1
  | some q => nI q
/-- the best story so far, as the model holds it -/
def BS (n : Nat) (s : Option (Nat × Nat × (Nat → Nat))) (N : Mem) : Prop := match s with
  | none => N 0 31 = -nI 1
  | some b => b.1 ≤ 1000 ∧ b.2.1 ≤ 10 ∧ N 0 31 = nI b.1 ∧ N 0 32 = nI b.2.1 ∧ ∀ i, i < n → N 17 i = nI (b.2.2 i)
def FrS (N N' : Mem) : Prop := (∀ f, f ≠ 31 → f ≠ 32 → N' 0 f = N 0 f) ∧ ∀ a, a ≠ 0 → a ≠ 16 → a ≠ 17 → N' a = N a
theorem BS.cg {n : Nat} {s : Option (Nat × Nat × (Nat → Nat))} {N N' : Mem} (h : BS n s N) (h1 : N' 0 31 = N 0 31) (h2 : N' 0 32 = N 0 32) (h3 : N' 17 = N 17) : BS n s N' := by
  cases s with
  | none => exact h1.trans h
  | some b =>
    obtain ⟨a1, a2, a3, a4, a5⟩ := h
    exact ⟨a1, a2, h1.trans a3, h2.trans a4, fun i hi => by rw [h3]; exact a5 i hi⟩
theorem mP_le {c : Nat → Nat → Option Nat} {b : Nat → Nat} {n : Nat} (hc : ∀ k j q, c k j = some q → q ≤ 30) : ∀ m, mP c b n m ≤ 30 * m
  | 0 => Nat.le_refl _
  | m + 1 => by
    rw [mP]
    have := mP_le (b := b) (n := n) hc m
    cases e : c (n - (m + 1)) (b (n - (m + 1))) with
    | none => show 0 + _ ≤ _; omega
    | some q => have := hc _ _ _ e; show q + _ ≤ _; omega
theorem mU_le {b : Nat → Nat} {n : Nat} : ∀ m, mU b n m ≤ m
  | 0 => Nat.le_refl _
  | m + 1 => by
    rw [mU]
    have := mU_le (b := b) (n := n) m
    unfold ukN
    split <;> omega
theorem btr_ge {b : Nat × Nat × (Nat → Nat)} {x : Nat × Nat × (Nat → Nat)} (h : b.1 < x.1) : btr (some b) x = some b := by
  show (if x.1 < b.1 ∨ (x.1 = b.1 ∧ x.2.1 < b.2.1) then some x else some b) = some b
  rw [if_neg (by omega)]
theorem tries_ok {c : Nat → Nat → Option Nat} {b : Nat → Nat} {n u : Nat} {N : Mem} (hn : n ≤ 6) (hu : u ≤ 6) (hc : ∀ k j q, c k j = some q → q ≤ 30) (hC : Cheap c b n) (n3 : N 1 3 = nI n) (n33 : N 0 33 = nI u) (n15 : ∀ k j, k < n → 1 ≤ j → j ≤ 7 → N 15 (8 * k + j) = cI (c k j)) :
    ∀ d k pr uk s (kn : Nat → Nat) (N' : Mem), k ≤ n → n < d + k → pr ≤ 30 * k → uk ≤ k → FrS N N' → BS n s N' → (∀ i, i < k → N' 16 i = nI (kn i)) →
    Res (fun _ N2 => FrS N N2 ∧ (∀ i, i < k → N2 16 i = nI (kn i)) ∧ BS n (if uk + mU b n (n - k) ≤ u then btr s (pr + mP c b n (n - k), uk + mU b n (n - k), fun i => if i < k then kn i else b i) else s) N2) (GP_tr d 0 (nI k) (nI pr) (nI uk) N') := by
  intro d
  induction d with
  | zero => intro k pr uk s kn N' h1 h2; omega
  | succ d ihd =>
    intro k pr uk s kn N' hk hd hpr huk hF hB hkn
    have hmP := mP_le (b := b) (n := n) hc (n - k)
    have hmU := mU_le (b := b) (n := n) (n - k)
    have e33 : N' 0 33 = nI u := by rw [hF.1 33 (by decide) (by decide)]; exact n33
    have e3 : N' 1 3 = nI n := by rw [hF.2 1 (by decide) (by decide) (by decide)]; exact n3
    show Res _ (F_X10_tries (GP_tr d) 0 (nI k) (nI pr) (nI uk) N')
    unfold F_X10_tries
    rw [vv_e, e33]
    by_cases c1 : u < uk
    · rw [if_pos (nI_lt c1 (by omega)), if_neg (by omega)]
      exact Res.mk ⟨hF, hkn, hB⟩
    rw [if_neg (nI_nlt (by omega) (by omega)), vv_e, jn_e]
    dsimp only
    -- behind the test of the price
    have main : (∀ bb, s = some bb → pr ≤ bb.1) → Res (fun _ N2 => FrS N N2 ∧ (∀ i, i < k → N2 16 i = nI (kn i)) ∧ BS n (if uk + mU b n (n - k) ≤ u then btr s (pr + mP c b n (n - k), uk + mU b n (n - k), fun i => if i < k then kn i else b i) else s) N2) (vv (grf G2 0 0) fun x4 => ld N' x4 3 3510 fun x5 => if nI k = x5 then vv (N' 0 31) fun x16 => jn (fun (M : Mem) => mm (up M 0 31 (nI pr)) fun M => mm (up M 0 32 (nI uk)) fun M => it1 (fun rc19 (v18 : Int32) M => if v18 < nI k then vv (grf G2 0 30) fun x20 => vv (grf G2 0 29) fun x21 => ld M x21 v18 6 fun x22 => st M x20 v18 6 x22 fun M => rc19 (v18 + 1) M else some (0, M)) fuel 0 M) fun k17 => if x16 < 0 then k17 N' else vv (N' 0 31) fun x23 => if nI pr < x23 then k17 N' else vv (N' 0 32) fun x24 => if nI uk < x24 then k17 N' else some (0, N') else it1 (fun rc7 (v6 : Int32) M => if 7 < v6 then some (0, M) else vv (grf G2 0 28) fun x8 => ld M x8 ((8 * nI k) + v6) 48 fun x9 => if x9 < 0 then rc7 (v6 + 1) M else vv (grf G2 0 29) fun x10 => st M x10 (nI k) 6 v6 fun M => vv (grf G2 0 28) fun x11 => ld M x11 ((8 * nI k) + v6) 48 fun x12 => jn (fun (v13 : Int32) (M : Mem) => bd (GP_tr d 0 (nI k + 1) (nI pr + x12) (nI uk + v13) M) fun _ M => rc7 (v6 + 1) M) fun k14 => if v6 < 6 then k14 0 M else k14 1 M) fuel 1 N') := by
      intro hle
      rw [vv_e, e2_0_0, ld_3, e3]
      by_cases hkn' : k = n
      · subst hkn'
        rw [if_pos rfl, vv_e, jn_e]
        dsimp only
        have z1 : mP c b k (k - k) = 0 := by rw [Nat.sub_self]; rfl
        have z2 : mU b k (k - k) = 0 := by rw [Nat.sub_self]; rfl
        rw [z1, z2, Nat.add_zero, Nat.add_zero, if_pos (show uk ≤ u by omega)]
        have copy : btr s (pr, uk, fun i => if i < k then kn i else b i) = some (pr, uk, fun i => if i < k then kn i else b i) → Res (fun _ N2 => FrS N N2 ∧ (∀ i, i < k → N2 16 i = nI (kn i)) ∧ BS k (btr s (pr, uk, fun i => if i < k then kn i else b i)) N2) (mm (up N' 0 31 (nI pr)) fun M => mm (up M 0 32 (nI uk)) fun M => it1 (fun rc19 (v18 : Int32) M => if v18 < nI k then vv (grf G2 0 30) fun x20 => vv (grf G2 0 29) fun x21 => ld M x21 v18 6 fun x22 => st M x20 v18 6 x22 fun M => rc19 (v18 + 1) M else some (0, M)) fuel 0 M) := by
          intro hb
          rw [hb, mm_e, mm_e]
          refine lo1 (fun m y N2 => ∃ j, j + m = k ∧ y = nI j ∧ FrS N N2 ∧ (∀ i, i < k → N2 16 i = nI (kn i)) ∧ N2 0 31 = nI pr ∧ N2 0 32 = nI uk ∧ ∀ i, i < j → N2 17 i = nI (kn i)) ?_ fuel k _ _ (by show k < 5000; omega) ⟨0, by omega, rfl, ⟨fun f f1 f2 => by rw [up_k _ _ _ _ _ f2, up_k _ _ _ _ _ f1]; exact hF.1 f f1 f2, fun a g1 g2 g3 => by rw [up_ne g1, up_ne g1]; exact hF.2 a g1 g2 g3⟩, fun i hi => by rw [up_a _ _ _ _ _ _ (by decide), up_a _ _ _ _ _ _ (by decide)]; exact hkn i hi, by rw [up_k _ _ _ _ _ (by decide), up_same], up_same _ _ _ _, fun i hi => absurd hi (Nat.not_lt_zero i)⟩
          rintro m rc _ N2 ⟨j, hj, rfl, g1, g2, g3, g4, g5⟩ ih
          by_cases hjk : j = k
          · subst hjk
            rw [if_neg (nI_nlt (Nat.le_refl _) (by omega))]
            exact Res.mk ⟨g1, g2, by show pr ≤ 1000; omega, by show uk ≤ 10; omega, g3, g4, fun i hi => by show N2 17 i = nI (if i < j then kn i else b i); rw [if_pos hi]; exact g5 i hi⟩
          have gj := g2 j (by omega)
          rw [if_pos (nI_lt (show j < k by omega) (by omega))]
          simp (maxSteps := 1000000) (disch := omega) only [vv_e, mm_e, jn_e, bd_e, bd_i, e2_0_0, e2_0_1, e2_0_2, e2_0_4, e2_0_5, e2_0_6, e2_0_7, e2_0_8, e2_0_9, e2_0_10, e2_0_11, e2_0_12, e2_0_24, e2_0_25, e2_0_28, e2_0_29, e2_0_30, e2_0_34, e2_0_35, e2_0_36, e2_0_38, ld_i, st_i, la_i, sl_i, nI_add, pk_mul, pk_sub, ng_add, neg_neg_n, nlt, nle, neq, ng_lt, gn_lt, gg_lt, ng_le, gn_le, gg_le, ng_eq, gn_eq, gg_eq, dv_i, if_pos, if_neg, ite_tt, ite_ff, if_b2, if_b2n, l_0, l_1, l_2, l_3, l_4, l_5, l_6, l_7, l_8, l_9, l_10, l_11, l_12, l_13, l_16, l_20, l_24, l_30, l_32, l_33, l_38, l_42, l_43, l_45, l_47, l_48, l_50, l_57, l_60, l_61, l_62, l_96, l_97, l_99, l_100, l_102, l_105, l_110, l_121, l_122, l_124, l_128, l_200, l_255, l_270, l_350, l_360, l_400, l_440, l_490, l_500, l_999, l_1000, l_9999, l_10000, l_99999, l_100000, l_1000000, l_1000000001, l_1000000002, l_1000000003, l_1000000005, l_1000000011, l_1000000012, l_1000000013, l_1000000014, gj]
          refine ih (m - 1) _ _ (by omega) ⟨j + 1, by omega, rfl, ⟨fun f f1 f2 => by rw [up_ne (by decide)]; exact g1.1 f f1 f2, fun a h1 h2 h3 => by rw [up_ne h3]; exact g1.2 a h1 h2 h3⟩, fun i hi => by rw [up_a _ _ _ _ _ _ (by decide)]; exact g2 i hi, by rw [up_a _ _ _ _ _ _ (by decide)]; exact g3, by rw [up_a _ _ _ _ _ _ (by decide)]; exact g4, fun i hi => ?_⟩
          by_cases e : i = j
          · subst e; exact up_same _ _ _ _
          · rw [up_k _ _ _ _ _ e]; exact g5 i (by omega)
        cases s with
        | none =>
          have hB' : N' 0 31 = -nI 1 := hB
          rw [hB', if_pos (show -nI 1 < 0 by decide)]
          exact copy rfl
        | some bb =>
          obtain ⟨a1, a2, a3, a4, a5⟩ := id hB
          rw [a3, if_neg (nI_pos (by omega)), vv_e]
          by_cases c2 : pr < bb.1
          · rw [if_pos (nI_lt c2 (by omega))]
            exact copy (if_pos (Or.inl c2))
          · have hpe : pr = bb.1 := by have := hle bb rfl; omega
            rw [if_neg (nI_nlt (by omega) (by omega)), vv_e, a4]
            by_cases c3 : uk < bb.2.1
            · rw [if_pos (nI_lt c3 (by omega))]
              exact copy (if_pos (Or.inr ⟨hpe, c3⟩))
            · rw [if_neg (nI_nlt (by omega) (by omega))]
              have e : btr (some bb) (pr, uk, fun i => if i < k then kn i else b i) = some bb := if_neg (by show ¬ (pr < bb.1 ∨ (pr = bb.1 ∧ uk < bb.2.1)); omega)
              rw [e]
              exact Res.mk ⟨hF, hkn, hB⟩
      · rw [if_neg (fun q => hkn' ((nI_eq (by omega) (by omega)).mp q))]
        obtain ⟨b1, b7, p, hp, hmin⟩ := hC k (by omega)
        have hp30 := hc k (b k) p hp
        have eP : mP c b n (n - k) = p + mP c b n (n - (k + 1)) := by
          rw [show n - k = (n - (k + 1)) + 1 by omega, mP, show n - (n - (k + 1) + 1) = k by omega, hp]
          rfl
        have eU : mU b n (n - k) = ukN (b k) + mU b n (n - (k + 1)) := by
          rw [show n - k = (n - (k + 1)) + 1 by omega, mU, show n - (n - (k + 1) + 1) = k by omega]
        have hmP1 := mP_le (b := b) (n := n) hc (n - (k + 1))
        have hmU1 := mU_le (b := b) (n := n) (n - (k + 1))
        have huk1 : ∀ j, ukN j ≤ 1 := fun j => by unfold ukN; split <;> omega
        have hub := huk1 (b k)
        rw [eP, eU]
        refine lo1 (fun m y N2 => ∃ j s', j + m = 8 ∧ 1 ≤ j ∧ y = nI j ∧ FrS N N2 ∧ (∀ i, i < k → N2 16 i = nI (kn i)) ∧ BS n s' N2 ∧ ((j ≤ b k ∧ (uk + (ukN (b k) + mU b n (n - (k + 1))) ≤ u → btr s' (pr + (p + mP c b n (n - (k + 1))), uk + (ukN (b k) + mU b n (n - (k + 1))), fun i => if i < k then kn i else b i) = btr s (pr + (p + mP c b n (n - (k + 1))), uk + (ukN (b k) + mU b n (n - (k + 1))), fun i => if i < k then kn i else b i)) ∧ (¬ uk + (ukN (b k) + mU b n (n - (k + 1))) ≤ u → s' = s)) ∨ (b k < j ∧ s' = if uk + (ukN (b k) + mU b n (n - (k + 1))) ≤ u then btr s (pr + (p + mP c b n (n - (k + 1))), uk + (ukN (b k) + mU b n (n - (k + 1))), fun i => if i < k then kn i else b i) else s))) ?_ fuel 7 _ N' (by decide) ⟨1, s, by omega, by omega, rfl, hF, hkn, hB, Or.inl ⟨b1, fun _ => rfl, fun _ => rfl⟩⟩
        rintro m rc _ N2 ⟨j, s', hj, hj1, rfl, g1, g2, g3, g4⟩ ih
        by_cases hj8 : j = 8
        · subst hj8
          rw [if_pos (show (7 : Int32) < nI 8 by decide)]
          rcases g4 with ⟨q, -⟩ | ⟨-, q⟩
          · omega
          · rw [← q]
            exact Res.mk ⟨g1, g2, g3⟩
        have h7 : ¬ (7 : Int32) < nI j := nI_nlt (a := 7) (b := j) (by omega) (by omega)
        rw [if_neg h7]
        have e15 : N2 15 (8 * k + j) = cI (c k j) := by rw [g1.2 15 (by decide) (by decide) (by decide)]; exact n15 k j (by omega) hj1 (by omega)
        cases hcj : c k j with
        | none =>
          rw [hcj] at e15
          have e15' : N2 15 (8 * k + j) = -nI 1 := e15
          simp (maxSteps := 1000000) (disch := omega) only [vv_e, mm_e, jn_e, bd_e, bd_i, e2_0_0, e2_0_1, e2_0_2, e2_0_4, e2_0_5, e2_0_6, e2_0_7, e2_0_8, e2_0_9, e2_0_10, e2_0_11, e2_0_12, e2_0_24, e2_0_25, e2_0_28, e2_0_29, e2_0_30, e2_0_34, e2_0_35, e2_0_36, e2_0_38, ld_i, st_i, la_i, sl_i, nI_add, pk_mul, pk_sub, ng_add, neg_neg_n, nlt, nle, neq, ng_lt, gn_lt, gg_lt, ng_le, gn_le, gg_le, ng_eq, gn_eq, gg_eq, dv_i, if_pos, if_neg, ite_tt, ite_ff, if_b2, if_b2n, l_0, l_1, l_2, l_3, l_4, l_5, l_6, l_7, l_8, l_9, l_10, l_11, l_12, l_13, l_16, l_20, l_24, l_30, l_32, l_33, l_38, l_42, l_43, l_45, l_47, l_48, l_50, l_57, l_60, l_61, l_62, l_96, l_97, l_99, l_100, l_102, l_105, l_110, l_121, l_122, l_124, l_128, l_200, l_255, l_270, l_350, l_360, l_400, l_440, l_490, l_500, l_999, l_1000, l_9999, l_10000, l_99999, l_100000, l_1000000, l_1000000001, l_1000000002, l_1000000003, l_1000000005, l_1000000011, l_1000000012, l_1000000013, l_1000000014, e15']
          refine ih (m - 1) _ _ (by omega) ⟨j + 1, s', by omega, by omega, rfl, g1, g2, g3, ?_⟩
          rcases g4 with ⟨q1, q2, q3⟩ | ⟨q1, q2⟩
          · have : j ≠ b k := fun e => by rw [e, hp] at hcj; cases hcj
            exact Or.inl ⟨by omega, q2, q3⟩
          · exact Or.inr ⟨by omega, q2⟩
        | some q =>
          obtain ⟨m1, m2⟩ := hmin j q hj1 (by omega) hcj
          have hq30 := hc k j q hcj
          have huj := huk1 j
          rw [hcj] at e15
          have e15' : N2 15 (8 * k + j) = nI q := e15
          have hF2 : FrS N (up N2 16 k (nI j)) := ⟨fun f f1 f2 => by rw [up_ne (by decide)]; exact g1.1 f f1 f2, fun a h1 h2 h3 => by rw [up_ne h2]; exact g1.2 a h1 h2 h3⟩
          have call := ihd (k + 1) (pr + q) (uk + ukN j) s' (fun i => if i = k then j else kn i) (up N2 16 k (nI j)) (by omega) (by omega) (by omega) (by omega) hF2 (g3.cg (by rw [up_ne (by decide)]) (by rw [up_ne (by decide)]) (up_ne (by decide))) (fun i hi => by
            by_cases e : i = k
            · subst e; rw [up_same]; exact congrArg nI (if_pos rfl).symm
            · rw [up_k _ _ _ _ _ e, g2 i (by omega)]; exact congrArg nI (if_neg e).symm)
          have hcall : Res (fun r N2 => FrS N N2 ∧ (∀ i, i < k → N2 16 i = nI (kn i)) ∧ BS n (if uk + (ukN (b k) + mU b n (n - (k + 1))) ≤ u then btr s (pr + (p + mP c b n (n - (k + 1))), uk + (ukN (b k) + mU b n (n - (k + 1))), fun i => if i < k then kn i else b i) else s) N2) (bd (GP_tr d 0 (nI (k + 1)) (nI (pr + q)) (nI (uk + ukN j)) (up N2 16 k (nI j))) fun _ M => rc (nI (j + 1)) M) := by
            refine Res.then call (fun r N3 hh => ?_)
            obtain ⟨k1, k2, k3⟩ := hh
            refine ih (m - 1) _ _ (by omega) ⟨j + 1, _, by omega, by omega, rfl, k1, fun i hi => by rw [k2 i (by omega)]; exact congrArg nI (if_neg (by omega)), k3, ?_⟩
            rcases g4 with ⟨q1, q2, q3⟩ | ⟨q1, q2⟩
            · by_cases hjb : j = b k
              · refine Or.inr ⟨by omega, ?_⟩
                have hpq : p = q := by rw [hjb, hp] at hcj; cases hcj; rfl
                have ekn : (fun i => if i < k + 1 then (if i = k then j else kn i) else b i) = fun i => if i < k then kn i else b i := by
                  funext i
                  by_cases e1 : i < k
                  · rw [if_pos (by omega), if_neg (by omega), if_pos e1]
                  · rw [if_neg e1]
                    by_cases e2 : i = k
                    · rw [if_pos (by omega), if_pos e2, e2, hjb]
                    · rw [if_neg (by omega)]
                rw [ekn, ← hpq, hjb, Nat.add_assoc, Nat.add_assoc]
                by_cases hfe : uk + (ukN (b k) + mU b n (n - (k + 1))) ≤ u
                · rw [if_pos hfe, if_pos hfe]; exact q2 hfe
                · rw [if_neg hfe, if_neg hfe]; exact q3 hfe
              · refine Or.inl ⟨by omega, fun hfe => ?_, fun hfe => ?_⟩
                · split
                  · rw [btr_2 _ _ _ (by show pr + (p + _) < pr + q + _; omega)]
                    exact q2 hfe
                  · exact q2 hfe
                · rw [if_neg (by omega)]
                  exact q3 hfe
            · refine Or.inr ⟨by omega, ?_⟩
              rw [q2]
              by_cases hfe : uk + (ukN (b k) + mU b n (n - (k + 1))) ≤ u
              · rw [if_pos hfe]
                split
                · exact btr_3 _ _ _ (by show pr + (p + _) < pr + q + _ ∨ (pr + (p + _) = pr + q + _ ∧ uk + (ukN (b k) + _) ≤ uk + ukN j + _); omega)
                · rfl
              · rw [if_neg hfe, if_neg (by omega)]
          by_cases h6 : j < 6
          · have eu : ukN j = 0 := if_neg (by omega)
            rw [eu] at hcall
            simp (maxSteps := 1000000) (disch := omega) only [vv_e, mm_e, jn_e, bd_e, bd_i, e2_0_0, e2_0_1, e2_0_2, e2_0_4, e2_0_5, e2_0_6, e2_0_7, e2_0_8, e2_0_9, e2_0_10, e2_0_11, e2_0_12, e2_0_24, e2_0_25, e2_0_28, e2_0_29, e2_0_30, e2_0_34, e2_0_35, e2_0_36, e2_0_38, ld_i, st_i, la_i, sl_i, nI_add, pk_mul, pk_sub, ng_add, neg_neg_n, nlt, nle, neq, ng_lt, gn_lt, gg_lt, ng_le, gn_le, gg_le, ng_eq, gn_eq, gg_eq, dv_i, if_pos, if_neg, ite_tt, ite_ff, if_b2, if_b2n, l_0, l_1, l_2, l_3, l_4, l_5, l_6, l_7, l_8, l_9, l_10, l_11, l_12, l_13, l_16, l_20, l_24, l_30, l_32, l_33, l_38, l_42, l_43, l_45, l_47, l_48, l_50, l_57, l_60, l_61, l_62, l_96, l_97, l_99, l_100, l_102, l_105, l_110, l_121, l_122, l_124, l_128, l_200, l_255, l_270, l_350, l_360, l_400, l_440, l_490, l_500, l_999, l_1000, l_9999, l_10000, l_99999, l_100000, l_1000000, l_1000000001, l_1000000002, l_1000000003, l_1000000005, l_1000000011, l_1000000012, l_1000000013, l_1000000014, up_a, up_k, up_same, e15']
            exact hcall
          · have eu : ukN j = 1 := if_pos (by omega)
            rw [eu] at hcall
            simp (maxSteps := 1000000) (disch := omega) only [vv_e, mm_e, jn_e, bd_e, bd_i, e2_0_0, e2_0_1, e2_0_2, e2_0_4, e2_0_5, e2_0_6, e2_0_7, e2_0_8, e2_0_9, e2_0_10, e2_0_11, e2_0_12, e2_0_24, e2_0_25, e2_0_28, e2_0_29, e2_0_30, e2_0_34, e2_0_35, e2_0_36, e2_0_38, ld_i, st_i, la_i, sl_i, nI_add, pk_mul, pk_sub, ng_add, neg_neg_n, nlt, nle, neq, ng_lt, gn_lt, gg_lt, ng_le, gn_le, gg_le, ng_eq, gn_eq, gg_eq, dv_i, if_pos, if_neg, ite_tt, ite_ff, if_b2, if_b2n, l_0, l_1, l_2, l_3, l_4, l_5, l_6, l_7, l_8, l_9, l_10, l_11, l_12, l_13, l_16, l_20, l_24, l_30, l_32, l_33, l_38, l_42, l_43, l_45, l_47, l_48, l_50, l_57, l_60, l_61, l_62, l_96, l_97, l_99, l_100, l_102, l_105, l_110, l_121, l_122, l_124, l_128, l_200, l_255, l_270, l_350, l_360, l_400, l_440, l_490, l_500, l_999, l_1000, l_9999, l_10000, l_99999, l_100000, l_1000000, l_1000000001, l_1000000002, l_1000000003, l_1000000005, l_1000000011, l_1000000012, l_1000000013, l_1000000014, up_a, up_k, up_same, e15']
            exact hcall
    cases s with
    | none =>
      have hB' : N' 0 31 = -nI 1 := hB
      rw [hB', if_pos (show -nI 1 < 0 by decide)]
      rw [hB'] at main
      exact main (fun bb q => by cases q)
    | some bb =>
      obtain ⟨a1, a2, a3, a4, a5⟩ := id hB
      rw [a3, if_neg (nI_pos (by omega)), vv_e]
      rw [a3] at main
      by_cases c2 : bb.1 < pr
      · rw [if_pos (nI_lt c2 (by omega))]
        refine Res.mk ⟨hF, hkn, ?_⟩
        have e : (if uk + mU b n (n - k) ≤ u then btr (some bb) (pr + mP c b n (n - k), uk + mU b n (n - k), fun i => if i < k then kn i else b i) else some bb) = some bb := by
          split
          · exact btr_ge (by show bb.1 < pr + _; omega)
          · rfl
        rw [e]
        exact hB
      · rw [if_neg (nI_nlt (by omega) (by omega))]
        exact main (fun b2' q => by cases q; omega)
