/-! bits -/
theorem nI_and {a b : Nat} (ha : a < 2 ^ 32) (hb : b < 2 ^ 32) : nI a &&& nI b = nI (a &&& b) := by
  apply Int32.toBitVec_inj.mp
  apply BitVec.eq_of_toNat_eq
  rw [Int32.toBitVec_and, BitVec.toNat_and, pk_tn ha, pk_tn hb, pk_tn (Nat.lt_of_le_of_lt Nat.and_le_left ha)]
theorem nI_or {a b : Nat} (n : Nat) (hn : n ≤ 32) (ha : a < 2 ^ n) (hb : b < 2 ^ n) : nI a ||| nI b = nI (a ||| b) := by
  have h2 : 2 ^ n ≤ 2 ^ 32 := Nat.pow_le_pow_right (by decide) hn
  apply Int32.toBitVec_inj.mp
  apply BitVec.eq_of_toNat_eq
  rw [Int32.toBitVec_or, BitVec.toNat_or, pk_tn (by omega), pk_tn (by omega), pk_tn (Nat.lt_of_lt_of_le (Nat.or_lt_two_pow ha hb) h2)]
theorem and_any (n : Nat) (hn : n < 2 ^ 32) (y : Int32) : ∃ m, m ≤ n ∧ nI n &&& y = nI m := by
  refine ⟨n &&& y.toBitVec.toNat, Nat.and_le_left, ?_⟩
  apply Int32.toBitVec_inj.mp
  apply BitVec.eq_of_toNat_eq
  rw [Int32.toBitVec_and, BitVec.toNat_and, pk_tn hn, pk_tn (Nat.lt_of_le_of_lt Nat.and_le_left hn)]
theorem smod_k : ∀ k, k < 32 → ((nI k).toBitVec.smod 32).toNat = k := by decide
theorem and_31 : ∀ k, k < 32 → nI k &&& 31 = nI k := by decide
theorem shr_n {n k : Nat} (hn : n < 2 ^ 31) (hk : k < 32) : nI n >>> nI k = nI (n / 2 ^ k) := pk_shrN hn (nI k) k (smod_k k hk)
theorem shl_1 {k : Nat} (hk : k < 32) : nI 1 <<< nI k = nI (2 ^ k) := by
  have := Nat.pow_lt_pow_right (a := 2) (by decide) hk
  rw [pk_shlN (nI k) k (smod_k k hk) (by omega), Nat.one_mul]
theorem and_1 {n : Nat} (hn : n < 2 ^ 32) : nI n &&& nI 1 = nI (n % 2) := pk_andN hn 1 rfl
theorem js_n {n : Nat} (hn : n < 2 ^ 32) (s k : Nat) (hs : (((nI s).toUInt32 &&& Int32.toUInt32 31).toBitVec % 32).toNat = k) : js (nI n) (nI s) = nI (n / 2 ^ k) := pk_ushrN hn (nI s) k hs
def bcN (n : Nat) : Nat :=
  (fun x1 => (fun x2 => (fun x3 => (fun x4 => (fun x5 => Nat.land x5 63) (Nat.add x4 (Nat.div x4 65536))) (Nat.add x3 (Nat.div x3 256))) (Nat.land (Nat.add x2 (Nat.div x2 16)) 252645135)) (Nat.add (Nat.land x1 858993459) (Nat.land (Nat.div x1 4) 858993459))) (Nat.sub n (Nat.land (Nat.div n 2) 1431655765))
def popN (n : Nat) : Nat → Nat
  | 0 => 0
  | k + 1 => popN n k + n / 2 ^ k % 2
def pop16 (n : Nat) : Nat := n % 2 + n / 2 % 2 + n / 4 % 2 + n / 8 % 2 + n / 16 % 2 + n / 32 % 2 + n / 64 % 2 + n / 128 % 2 + n / 256 % 2 + n / 512 % 2 + n / 1024 % 2 + n / 2048 % 2 + n / 4096 % 2 + n / 8192 % 2 + n / 16384 % 2 + n / 32768 % 2
theorem pop_eq (n : Nat) : popN n 16 = pop16 n := by
  simp only [popN, pop16]
  simp only [Nat.reducePow, Nat.div_one, Nat.zero_add]
def allB (p : Nat → Bool) (n : Nat) : Bool := Nat.rec true (fun k ih => and (p k) ih) n
theorem allB_s {p : Nat → Bool} : ∀ n, allB p n = true → ∀ k, k < n → p k = true
  | 0, _, k, hk => absurd hk (Nat.not_lt_zero k)
  | n + 1, h, k, hk => by
    have h : (p n && allB p n) = true := h
    rw [Bool.and_eq_true] at h
    by_cases e : k = n
    · rw [e]; exact h.1
    · exact allB_s n h.2 k (by omega)
theorem bc_chk : allB (fun a => allB (fun b => Nat.beq (bcN (Nat.add (Nat.mul 256 a) b)) (pop16 (Nat.add (Nat.mul 256 a) b))) 256) 256 = true := by decide +kernel
theorem bc_pop (n : Nat) (hn : n < 65536) : bcN n = pop16 n := by
  have h1 := allB_s 256 (allB_s 256 bc_chk (n / 256) (by omega)) (n % 256) (by omega)
  have h2 : Nat.add (Nat.mul 256 (n / 256)) (n % 256) = n := Nat.div_add_mod n 256
  rw [h2] at h1
  exact Nat.eq_of_beq_eq_true h1
theorem pop_le (n : Nat) : pop16 n ≤ 16 := by unfold pop16; omega
theorem pop_le8 (n : Nat) (h : n < 256) : pop16 n ≤ 8 := by unfold pop16; omega
theorem x_bc (n : Nat) (hn : n < 65536) (M : Mem) : f_J6_bitCount_0f7a4 (nI n) M = some (nI (pop16 n), M) := by
  rw [← bc_pop n hn]
  unfold f_J6_bitCount_0f7a4 bcN
  simp only [vv_e]
  have a1 : Nat.land (Nat.div n 2) 1431655765 ≤ n / 2 := Nat.and_le_left
  rw [show (1 : Int32) = nI 1 from rfl, js_n (by omega) 1 1 rfl, show (1431655765 : Int32) = nI 1431655765 from rfl, nI_and (by omega) (by omega)]
  rw [pk_sub (show n / 2 ^ 1 &&& 1431655765 ≤ n by exact Nat.le_trans a1 (Nat.div_le_self _ _))]
  generalize hx1 : Nat.sub n (Nat.land (Nat.div n 2) 1431655765) = x1
  have b1 : x1 ≤ n := by rw [← hx1]; exact Nat.sub_le _ _
  rw [show n - (n / 2 ^ 1 &&& 1431655765) = x1 from hx1]
  rw [show (2 : Int32) = nI 2 from rfl, js_n (by omega) 2 2 rfl, show (858993459 : Int32) = nI 858993459 from rfl, nI_and (by omega) (by omega), nI_and (by omega) (by omega), nI_add]
  generalize hx2 : Nat.add (Nat.land x1 858993459) (Nat.land (Nat.div x1 4) 858993459) = x2
  have a2 : Nat.land x1 858993459 ≤ x1 := Nat.and_le_left
  have a3 : Nat.land (Nat.div x1 4) 858993459 ≤ x1 / 4 := Nat.and_le_left
  have b2 : x2 ≤ x1 + x1 / 4 := by rw [← hx2]; exact Nat.add_le_add a2 a3
  rw [show (x1 &&& 858993459) + (x1 / 2 ^ 2 &&& 858993459) = x2 from hx2]
  rw [show (4 : Int32) = nI 4 from rfl, js_n (by omega) 4 4 rfl, nI_add, show (252645135 : Int32) = nI 252645135 from rfl, nI_and (by omega) (by omega)]
  generalize hx3 : Nat.land (Nat.add x2 (Nat.div x2 16)) 252645135 = x3
  have b3 : x3 ≤ x2 + x2 / 16 := by rw [← hx3]; exact Nat.and_le_left
  rw [show (x2 + x2 / 2 ^ 4 &&& 252645135) = x3 from hx3]
  rw [show (8 : Int32) = nI 8 from rfl, js_n (by omega) 8 8 rfl, nI_add]
  generalize hx4 : Nat.add x3 (Nat.div x3 256) = x4
  have b4 : x4 = x3 + x3 / 256 := hx4.symm
  rw [show x3 + x3 / 2 ^ 8 = x4 from hx4]
  rw [show (16 : Int32) = nI 16 from rfl, js_n (by omega) 16 16 rfl, nI_add, show (63 : Int32) = nI 63 from rfl, nI_and (by omega) (by omega)]
  rfl
theorem y_ones (n : Nat) (hn : n < 65536) (N : Mem) : f_X10_ones (nI n) N = some (nI (pop16 n), N) := by
  rw [← pop_eq]
  apply Res.eq
  unfold f_X10_ones
  refine lo2 (fun m x y N' => ∃ k, k + m = 16 ∧ x = nI (popN n k) ∧ y = nI k ∧ N' = N) ?_ fuel 16 _ _ N (by decide) ⟨0, by omega, rfl, rfl, rfl⟩
  rintro m rc _ _ N' ⟨k, hk, rfl, rfl, hM⟩ ih
  rw [hM]
  by_cases hk16 : k = 16
  · subst hk16
    exact Res.mk ⟨rfl, rfl⟩
  · have : n / 2 ^ k ≤ n := Nat.div_le_self _ _
    simp (maxSteps := 1000000) (disch := omega) only [vv_e, mm_e, jn_e, bd_e, bd_i, ld_i, st_i, la_i, sl_i, nI_add, pk_mul, pk_sub, ng_add, neg_neg_n, nlt, nle, neq, ng_lt, gn_lt, gg_lt, ng_le, gn_le, gg_le, ng_eq, gn_eq, gg_eq, dv_i, if_pos, if_neg, ite_tt, ite_ff, if_b2, if_b2n, l_0, l_1, l_2, l_3, l_4, l_5, l_6, l_7, l_8, l_9, l_10, l_11, l_12, l_13, l_16, l_20, l_24, l_30, l_32, l_33, l_38, l_42, l_43, l_45, l_47, l_48, l_50, l_57, l_60, l_61, l_62, l_96, l_97, l_99, l_100, l_102, l_105, l_110, l_121, l_122, l_124, l_128, l_200, l_255, l_270, l_350, l_360, l_400, l_440, l_490, l_500, l_999, l_1000, l_9999, l_10000, l_99999, l_100000, l_1000000, l_1000000001, l_1000000002, l_1000000003, l_1000000005, l_1000000011, l_1000000012, l_1000000013, l_1000000014, and_31, shr_n, and_1]
    exact ih (m - 1) _ _ _ (by omega) ⟨k + 1, by omega, rfl, rfl, rfl⟩
