/-! rows for simp: everything as nI n or -nI n -/
theorem ld_i {β : Type} {M : Mem} {a j n : Nat} {k : Int32 → Option β} (h : j < n) (hn : n < 2 ^ 31) : ld M a (nI j) n k = k (M a j) := ld_n j rfl h hn
theorem st_i {β : Type} {M : Mem} {a j n : Nat} {v : Int32} {k : Mem → Option β} (h : j < n) (hn : n < 2 ^ 31) : st M a (nI j) n v k = k (up M a j v) := st_n j rfl h hn
theorem la_i {β : Type} {G : Gr} {a j n : Nat} {k : Nat → Option β} (h : j < n) (hn : n < 2 ^ 31) : la G a (nI j) n k = k (grf G a j) := la_n j rfl h hn
theorem sl_i {β : Type} {f : Nat → Int32} {j n : Nat} {k : Int32 → Option β} (h : j < n) (hn : n < 2 ^ 31) : sl f (nI j) n k = k (f j) := sl_n j rfl h hn
theorem ng_toInt {n : Nat} (h : n < 2 ^ 31) : (-nI n).toInt = -(n : Int) := by
  rw [Int32.toInt_neg, nI_toInt h, Int.bmod_eq_of_le (by omega) (by omega)]
theorem ng_lt {a b : Nat} (ha : a < 2 ^ 31) (hb : b < 2 ^ 31) : (nI a < -nI b) = False := by
  apply propext
  rw [Int32.lt_iff_toInt_lt, nI_toInt ha, ng_toInt hb]
  constructor
  · intro h; omega
  · intro h; exact h.elim
theorem gn_lt {a b : Nat} (ha : a < 2 ^ 31) (hb : b < 2 ^ 31) : (-nI a < nI b) = (0 < a + b) := by
  apply propext
  rw [Int32.lt_iff_toInt_lt, nI_toInt hb, ng_toInt ha]
  omega
theorem gg_lt {a b : Nat} (ha : a < 2 ^ 31) (hb : b < 2 ^ 31) : (-nI a < -nI b) = (b < a) := by
  apply propext
  rw [Int32.lt_iff_toInt_lt, ng_toInt hb, ng_toInt ha]
  omega
theorem ng_le {a b : Nat} (ha : a < 2 ^ 31) (hb : b < 2 ^ 31) : (nI a ≤ -nI b) = (a + b = 0) := by
  apply propext
  rw [Int32.le_iff_toInt_le, nI_toInt ha, ng_toInt hb]
  omega
theorem gn_le {a b : Nat} (ha : a < 2 ^ 31) (hb : b < 2 ^ 31) : (-nI a ≤ nI b) = True := by
  apply propext
  rw [Int32.le_iff_toInt_le, nI_toInt hb, ng_toInt ha]
  constructor
  · intro h; trivial
  · intro h; omega
theorem gg_le {a b : Nat} (ha : a < 2 ^ 31) (hb : b < 2 ^ 31) : (-nI a ≤ -nI b) = (b ≤ a) := by
  apply propext
  rw [Int32.le_iff_toInt_le, ng_toInt hb, ng_toInt ha]
  omega
theorem ng_eq {a b : Nat} (ha : a < 2 ^ 31) (hb : b < 2 ^ 31) : (nI a = -nI b) = (a + b = 0) := by
  apply propext
  rw [← Int32.toInt_inj, nI_toInt ha, ng_toInt hb]
  omega
theorem gn_eq {a b : Nat} (ha : a < 2 ^ 31) (hb : b < 2 ^ 31) : (-nI a = nI b) = (a + b = 0) := by
  apply propext
  rw [← Int32.toInt_inj, nI_toInt hb, ng_toInt ha]
  omega
theorem gg_eq {a b : Nat} (ha : a < 2 ^ 31) (hb : b < 2 ^ 31) : (-nI a = -nI b) = (a = b) := by
  apply propext
  rw [← Int32.toInt_inj, ng_toInt hb, ng_toInt ha]
  omega
theorem ng_add {a b : Nat} (h : b ≤ a) : nI a + -nI b = nI (a - b) := by
  rw [← pk_sub h, Int32.sub_eq_add_neg]
theorem gs_sub {a b : Nat} (ha : b < 2 ^ 31) (h : a ≤ b) : nI a - nI b = -nI (b - a) := by
  rw [← Int32.toInt_inj, Int32.toInt_sub, nI_toInt (by omega), nI_toInt ha, ng_toInt (by omega), Int.bmod_eq_of_le (by omega) (by omega)]
  omega
theorem neg_neg_n (a : Nat) : - -nI a = nI a := Int32.neg_neg
theorem jr_n {a d : Nat} (ha : a < 2 ^ 31) (h0 : 0 < d) (hd : d < 2 ^ 31) : jr (nI a) (nI d) = nI (a % d) := pk_rem ha h0 hd
theorem i64_n (a : Int32) : Int32.toInt64 a = Int32.toInt64 a := rfl
theorem l_0 : (0 : Int32) = nI 0 := congrArg Int32.ofNat (Eq.refl 0)
theorem l_1 : (1 : Int32) = nI 1 := congrArg Int32.ofNat (Eq.refl 1)
theorem l_2 : (2 : Int32) = nI 2 := congrArg Int32.ofNat (Eq.refl 2)
theorem l_3 : (3 : Int32) = nI 3 := congrArg Int32.ofNat (Eq.refl 3)
theorem l_4 : (4 : Int32) = nI 4 := congrArg Int32.ofNat (Eq.refl 4)
theorem l_5 : (5 : Int32) = nI 5 := congrArg Int32.ofNat (Eq.refl 5)
theorem l_6 : (6 : Int32) = nI 6 := congrArg Int32.ofNat (Eq.refl 6)
theorem l_7 : (7 : Int32) = nI 7 := congrArg Int32.ofNat (Eq.refl 7)
theorem l_8 : (8 : Int32) = nI 8 := congrArg Int32.ofNat (Eq.refl 8)
theorem l_9 : (9 : Int32) = nI 9 := congrArg Int32.ofNat (Eq.refl 9)
theorem l_10 : (10 : Int32) = nI 10 := congrArg Int32.ofNat (Eq.refl 10)
theorem l_11 : (11 : Int32) = nI 11 := congrArg Int32.ofNat (Eq.refl 11)
theorem l_12 : (12 : Int32) = nI 12 := congrArg Int32.ofNat (Eq.refl 12)
theorem l_13 : (13 : Int32) = nI 13 := congrArg Int32.ofNat (Eq.refl 13)
theorem l_16 : (16 : Int32) = nI 16 := congrArg Int32.ofNat (Eq.refl 16)
theorem l_20 : (20 : Int32) = nI 20 := congrArg Int32.ofNat (Eq.refl 20)
theorem l_24 : (24 : Int32) = nI 24 := congrArg Int32.ofNat (Eq.refl 24)
theorem l_30 : (30 : Int32) = nI 30 := congrArg Int32.ofNat (Eq.refl 30)
theorem l_32 : (32 : Int32) = nI 32 := congrArg Int32.ofNat (Eq.refl 32)
theorem l_33 : (33 : Int32) = nI 33 := congrArg Int32.ofNat (Eq.refl 33)
theorem l_38 : (38 : Int32) = nI 38 := congrArg Int32.ofNat (Eq.refl 38)
theorem l_42 : (42 : Int32) = nI 42 := congrArg Int32.ofNat (Eq.refl 42)
theorem l_43 : (43 : Int32) = nI 43 := congrArg Int32.ofNat (Eq.refl 43)
theorem l_45 : (45 : Int32) = nI 45 := congrArg Int32.ofNat (Eq.refl 45)
theorem l_47 : (47 : Int32) = nI 47 := congrArg Int32.ofNat (Eq.refl 47)
theorem l_48 : (48 : Int32) = nI 48 := congrArg Int32.ofNat (Eq.refl 48)
theorem l_50 : (50 : Int32) = nI 50 := congrArg Int32.ofNat (Eq.refl 50)
theorem l_57 : (57 : Int32) = nI 57 := congrArg Int32.ofNat (Eq.refl 57)
theorem l_60 : (60 : Int32) = nI 60 := congrArg Int32.ofNat (Eq.refl 60)
theorem l_61 : (61 : Int32) = nI 61 := congrArg Int32.ofNat (Eq.refl 61)
theorem l_62 : (62 : Int32) = nI 62 := congrArg Int32.ofNat (Eq.refl 62)
theorem l_96 : (96 : Int32) = nI 96 := congrArg Int32.ofNat (Eq.refl 96)
theorem l_97 : (97 : Int32) = nI 97 := congrArg Int32.ofNat (Eq.refl 97)
theorem l_99 : (99 : Int32) = nI 99 := congrArg Int32.ofNat (Eq.refl 99)
theorem l_100 : (100 : Int32) = nI 100 := congrArg Int32.ofNat (Eq.refl 100)
theorem l_102 : (102 : Int32) = nI 102 := congrArg Int32.ofNat (Eq.refl 102)
theorem l_105 : (105 : Int32) = nI 105 := congrArg Int32.ofNat (Eq.refl 105)
theorem l_110 : (110 : Int32) = nI 110 := congrArg Int32.ofNat (Eq.refl 110)
theorem l_121 : (121 : Int32) = nI 121 := congrArg Int32.ofNat (Eq.refl 121)
theorem l_122 : (122 : Int32) = nI 122 := congrArg Int32.ofNat (Eq.refl 122)
theorem l_124 : (124 : Int32) = nI 124 := congrArg Int32.ofNat (Eq.refl 124)
theorem l_128 : (128 : Int32) = nI 128 := congrArg Int32.ofNat (Eq.refl 128)
theorem l_200 : (200 : Int32) = nI 200 := congrArg Int32.ofNat (Eq.refl 200)
theorem l_255 : (255 : Int32) = nI 255 := congrArg Int32.ofNat (Eq.refl 255)
theorem l_270 : (270 : Int32) = nI 270 := congrArg Int32.ofNat (Eq.refl 270)
theorem l_350 : (350 : Int32) = nI 350 := congrArg Int32.ofNat (Eq.refl 350)
theorem l_360 : (360 : Int32) = nI 360 := congrArg Int32.ofNat (Eq.refl 360)
theorem l_400 : (400 : Int32) = nI 400 := congrArg Int32.ofNat (Eq.refl 400)
theorem l_440 : (440 : Int32) = nI 440 := congrArg Int32.ofNat (Eq.refl 440)
theorem l_490 : (490 : Int32) = nI 490 := congrArg Int32.ofNat (Eq.refl 490)
theorem l_500 : (500 : Int32) = nI 500 := congrArg Int32.ofNat (Eq.refl 500)
theorem l_999 : (999 : Int32) = nI 999 := congrArg Int32.ofNat (Eq.refl 999)
theorem l_1000 : (1000 : Int32) = nI 1000 := congrArg Int32.ofNat (Eq.refl 1000)
theorem l_9999 : (9999 : Int32) = nI 9999 := congrArg Int32.ofNat (Eq.refl 9999)
theorem l_10000 : (10000 : Int32) = nI 10000 := congrArg Int32.ofNat (Eq.refl 10000)
theorem l_99999 : (99999 : Int32) = nI 99999 := congrArg Int32.ofNat (Eq.refl 99999)
theorem l_100000 : (100000 : Int32) = nI 100000 := congrArg Int32.ofNat (Eq.refl 100000)
theorem l_1000000 : (1000000 : Int32) = nI 1000000 := congrArg Int32.ofNat (Eq.refl 1000000)
theorem l_1000000001 : (1000000001 : Int32) = nI 1000000001 := congrArg Int32.ofNat (Eq.refl 1000000001)
theorem l_1000000002 : (1000000002 : Int32) = nI 1000000002 := congrArg Int32.ofNat (Eq.refl 1000000002)
theorem l_1000000003 : (1000000003 : Int32) = nI 1000000003 := congrArg Int32.ofNat (Eq.refl 1000000003)
theorem l_1000000005 : (1000000005 : Int32) = nI 1000000005 := congrArg Int32.ofNat (Eq.refl 1000000005)
theorem l_1000000011 : (1000000011 : Int32) = nI 1000000011 := congrArg Int32.ofNat (Eq.refl 1000000011)
theorem l_1000000012 : (1000000012 : Int32) = nI 1000000012 := congrArg Int32.ofNat (Eq.refl 1000000012)
theorem l_1000000013 : (1000000013 : Int32) = nI 1000000013 := congrArg Int32.ofNat (Eq.refl 1000000013)
theorem l_1000000014 : (1000000014 : Int32) = nI 1000000014 := congrArg Int32.ofNat (Eq.refl 1000000014)
theorem vv_e {α β : Type} (e : α) (k : α → Option β) : vv e k = k e := Eq.trans rfl rfl
theorem mm_e {β : Type} (M : Mem) (k : Mem → Option β) : mm M k = k M := Eq.trans rfl rfl
theorem jn_e {α β : Type} (r : α) (b : α → Option β) : jn r b = b r := Eq.trans rfl rfl
theorem bd_e {α β : Type} (r : α) (M : Mem) (k : α → Mem → Option β) : bd (some (r, M)) k = k r M := Eq.trans rfl rfl
theorem e1_0_0 : grf G1 0 0 = 1 := Eq.trans rfl rfl
theorem e1_0_1 : grf G1 0 1 = 31 := Eq.trans rfl rfl
theorem e1_0_3 : grf G1 0 3 = 61 := Eq.trans rfl rfl
theorem e1_0_4 : grf G1 0 4 = 64 := Eq.trans rfl rfl
theorem e1_0_6 : grf G1 0 6 = 65 := Eq.trans rfl rfl
theorem e1_0_7 : grf G1 0 7 = 74 := Eq.trans rfl rfl
theorem e1_1_0 : grf G1 1 0 = 2 := Eq.trans rfl rfl
theorem e1_1_1 : grf G1 1 1 = 9 := Eq.trans rfl rfl
theorem e1_1_2 : grf G1 1 2 = 16 := Eq.trans rfl rfl
theorem e1_1_3 : grf G1 1 3 = 19 := Eq.trans rfl rfl
theorem e1_1_4 : grf G1 1 4 = 24 := Eq.trans rfl rfl
theorem e1_1_5 : grf G1 1 5 = 29 := Eq.trans rfl rfl
theorem e1_1_9 : grf G1 1 9 = 30 := Eq.trans rfl rfl
theorem e1_2_1 : grf G1 2 1 = 3 := Eq.trans rfl rfl
theorem e1_2_3 : grf G1 2 3 = 4 := Eq.trans rfl rfl
theorem e1_2_4 : grf G1 2 4 = 5 := Eq.trans rfl rfl
theorem e1_2_5 : grf G1 2 5 = 6 := Eq.trans rfl rfl
theorem e1_2_6 : grf G1 2 6 = 7 := Eq.trans rfl rfl
theorem e1_2_7 : grf G1 2 7 = 8 := Eq.trans rfl rfl
theorem e1_9_1 : grf G1 9 1 = 10 := Eq.trans rfl rfl
theorem e1_9_2 : grf G1 9 2 = 11 := Eq.trans rfl rfl
theorem e1_9_3 : grf G1 9 3 = 12 := Eq.trans rfl rfl
theorem e1_9_4 : grf G1 9 4 = 13 := Eq.trans rfl rfl
theorem e1_9_5 : grf G1 9 5 = 14 := Eq.trans rfl rfl
theorem e1_9_6 : grf G1 9 6 = 15 := Eq.trans rfl rfl
theorem e1_16_0 : grf G1 16 0 = 17 := Eq.trans rfl rfl
theorem e1_16_1 : grf G1 16 1 = 18 := Eq.trans rfl rfl
theorem e1_19_0 : grf G1 19 0 = 20 := Eq.trans rfl rfl
theorem e1_19_2 : grf G1 19 2 = 21 := Eq.trans rfl rfl
theorem e1_19_3 : grf G1 19 3 = 22 := Eq.trans rfl rfl
theorem e1_19_4 : grf G1 19 4 = 23 := Eq.trans rfl rfl
theorem e1_24_1 : grf G1 24 1 = 25 := Eq.trans rfl rfl
theorem e1_24_2 : grf G1 24 2 = 26 := Eq.trans rfl rfl
theorem e1_24_3 : grf G1 24 3 = 27 := Eq.trans rfl rfl
theorem e1_24_5 : grf G1 24 5 = 28 := Eq.trans rfl rfl
theorem e1_31_0 : grf G1 31 0 = 32 := Eq.trans rfl rfl
theorem e1_31_1 : grf G1 31 1 = 39 := Eq.trans rfl rfl
theorem e1_31_2 : grf G1 31 2 = 46 := Eq.trans rfl rfl
theorem e1_31_3 : grf G1 31 3 = 49 := Eq.trans rfl rfl
theorem e1_31_4 : grf G1 31 4 = 54 := Eq.trans rfl rfl
theorem e1_31_5 : grf G1 31 5 = 59 := Eq.trans rfl rfl
theorem e1_31_9 : grf G1 31 9 = 60 := Eq.trans rfl rfl
theorem e1_32_1 : grf G1 32 1 = 33 := Eq.trans rfl rfl
theorem e1_32_3 : grf G1 32 3 = 34 := Eq.trans rfl rfl
theorem e1_32_4 : grf G1 32 4 = 35 := Eq.trans rfl rfl
theorem e1_32_5 : grf G1 32 5 = 36 := Eq.trans rfl rfl
theorem e1_32_6 : grf G1 32 6 = 37 := Eq.trans rfl rfl
theorem e1_32_7 : grf G1 32 7 = 38 := Eq.trans rfl rfl
theorem e1_39_1 : grf G1 39 1 = 40 := Eq.trans rfl rfl
theorem e1_39_2 : grf G1 39 2 = 41 := Eq.trans rfl rfl
theorem e1_39_3 : grf G1 39 3 = 42 := Eq.trans rfl rfl
theorem e1_39_4 : grf G1 39 4 = 43 := Eq.trans rfl rfl
theorem e1_39_5 : grf G1 39 5 = 44 := Eq.trans rfl rfl
theorem e1_39_6 : grf G1 39 6 = 45 := Eq.trans rfl rfl
theorem e1_46_0 : grf G1 46 0 = 47 := Eq.trans rfl rfl
theorem e1_46_1 : grf G1 46 1 = 48 := Eq.trans rfl rfl
theorem e1_49_0 : grf G1 49 0 = 50 := Eq.trans rfl rfl
theorem e1_49_2 : grf G1 49 2 = 51 := Eq.trans rfl rfl
theorem e1_49_3 : grf G1 49 3 = 52 := Eq.trans rfl rfl
theorem e1_49_4 : grf G1 49 4 = 53 := Eq.trans rfl rfl
theorem e1_54_1 : grf G1 54 1 = 55 := Eq.trans rfl rfl
theorem e1_54_2 : grf G1 54 2 = 56 := Eq.trans rfl rfl
theorem e1_54_3 : grf G1 54 3 = 57 := Eq.trans rfl rfl
theorem e1_54_5 : grf G1 54 5 = 58 := Eq.trans rfl rfl
theorem e1_61_0 : grf G1 61 0 = 62 := Eq.trans rfl rfl
theorem e1_61_6 : grf G1 61 6 = 63 := Eq.trans rfl rfl
theorem e1_65_0 : grf G1 65 0 = 66 := Eq.trans rfl rfl
theorem e1_65_1 : grf G1 65 1 = 68 := Eq.trans rfl rfl
theorem e1_65_2 : grf G1 65 2 = 70 := Eq.trans rfl rfl
theorem e1_65_3 : grf G1 65 3 = 72 := Eq.trans rfl rfl
theorem e1_66_2 : grf G1 66 2 = 67 := Eq.trans rfl rfl
theorem e1_68_2 : grf G1 68 2 = 69 := Eq.trans rfl rfl
theorem e1_70_2 : grf G1 70 2 = 71 := Eq.trans rfl rfl
theorem e1_72_2 : grf G1 72 2 = 73 := Eq.trans rfl rfl
theorem e1_74_0 : grf G1 74 0 = 75 := Eq.trans rfl rfl
theorem e1_74_1 : grf G1 74 1 = 78 := Eq.trans rfl rfl
theorem e1_74_2 : grf G1 74 2 = 81 := Eq.trans rfl rfl
theorem e1_74_3 : grf G1 74 3 = 84 := Eq.trans rfl rfl
theorem e1_74_4 : grf G1 74 4 = 87 := Eq.trans rfl rfl
theorem e1_75_4 : grf G1 75 4 = 76 := Eq.trans rfl rfl
theorem e1_76_2 : grf G1 76 2 = 77 := Eq.trans rfl rfl
theorem e1_78_4 : grf G1 78 4 = 79 := Eq.trans rfl rfl
theorem e1_79_2 : grf G1 79 2 = 80 := Eq.trans rfl rfl
theorem e1_81_4 : grf G1 81 4 = 82 := Eq.trans rfl rfl
theorem e1_82_2 : grf G1 82 2 = 83 := Eq.trans rfl rfl
theorem e1_84_4 : grf G1 84 4 = 85 := Eq.trans rfl rfl
theorem e1_85_2 : grf G1 85 2 = 86 := Eq.trans rfl rfl
theorem e1_87_4 : grf G1 87 4 = 88 := Eq.trans rfl rfl
theorem e1_88_2 : grf G1 88 2 = 89 := Eq.trans rfl rfl
theorem e2_0_0 : grf G2 0 0 = 1 := Eq.trans rfl rfl
theorem e2_0_1 : grf G2 0 1 = 2 := Eq.trans rfl rfl
theorem e2_0_2 : grf G2 0 2 = 3 := Eq.trans rfl rfl
theorem e2_0_4 : grf G2 0 4 = 4 := Eq.trans rfl rfl
theorem e2_0_5 : grf G2 0 5 = 5 := Eq.trans rfl rfl
theorem e2_0_6 : grf G2 0 6 = 6 := Eq.trans rfl rfl
theorem e2_0_7 : grf G2 0 7 = 7 := Eq.trans rfl rfl
theorem e2_0_8 : grf G2 0 8 = 8 := Eq.trans rfl rfl
theorem e2_0_9 : grf G2 0 9 = 9 := Eq.trans rfl rfl
theorem e2_0_10 : grf G2 0 10 = 10 := Eq.trans rfl rfl
theorem e2_0_11 : grf G2 0 11 = 11 := Eq.trans rfl rfl
theorem e2_0_12 : grf G2 0 12 = 12 := Eq.trans rfl rfl
theorem e2_0_24 : grf G2 0 24 = 13 := Eq.trans rfl rfl
theorem e2_0_25 : grf G2 0 25 = 14 := Eq.trans rfl rfl
theorem e2_0_28 : grf G2 0 28 = 15 := Eq.trans rfl rfl
theorem e2_0_29 : grf G2 0 29 = 16 := Eq.trans rfl rfl
theorem e2_0_30 : grf G2 0 30 = 17 := Eq.trans rfl rfl
theorem e2_0_34 : grf G2 0 34 = 18 := Eq.trans rfl rfl
theorem e2_0_35 : grf G2 0 35 = 19 := Eq.trans rfl rfl
theorem e2_0_36 : grf G2 0 36 = 20 := Eq.trans rfl rfl
theorem e2_0_38 : grf G2 0 38 = 21 := Eq.trans rfl rfl
theorem dv_i {β : Type} {n : Nat} {x : Option β} (h : 0 < n) (hn : n < 2 ^ 31) : dv (nI n) x = x := dv_n (nI_ne0 h hn)
theorem ite_tt {α : Type} {x y : α} : (if True then x else y) = x := if_pos trivial
theorem ite_ff {α : Type} {x y : α} : (if False then x else y) = y := if_neg id
theorem if_b2n {α : Type} (p : Prop) [Decidable p] (x y : α) : (if b2 p = nI 0 then x else y) = if p then y else x := if_b2 p x y
/-! loops with a measure -/
theorem lo0 {Q : Int32 → Mem → Prop} {B : (Mem → Option (Int32 × Mem)) → Mem → Option (Int32 × Mem)} (I : Nat → Mem → Prop) (hs : ∀ (n : Nat) (rc : Mem → Option (Int32 × Mem)) (M : Mem), I n M → (∀ m M', m < n → I m M' → Res Q (rc M')) → Res Q (B rc M)) : ∀ f n M, n < f → I n M → Res Q (it0 B f M) := by
  intro f
  induction f with
  | zero => intro n M h; omega
  | succ f ih => intro n M h hI; exact hs n _ M hI (fun m M' hm hI' => ih m M' (by omega) hI')
theorem lo1 {Q : Int32 → Mem → Prop} {A1 : Type} {B : (A1 → Mem → Option (Int32 × Mem)) → A1 → Mem → Option (Int32 × Mem)} (I : Nat → A1 → Mem → Prop) (hs : ∀ (n : Nat) (rc : A1 → Mem → Option (Int32 × Mem)) (a : A1) (M : Mem), I n a M → (∀ m a' M', m < n → I m a' M' → Res Q (rc a' M')) → Res Q (B rc a M)) : ∀ f n a M, n < f → I n a M → Res Q (it1 B f a M) := by
  intro f
  induction f with
  | zero => intro n a M h; omega
  | succ f ih => intro n a M h hI; exact hs n _ a M hI (fun m a' M' hm hI' => ih m a' M' (by omega) hI')
theorem lo2 {Q : Int32 → Mem → Prop} {A1 A2 : Type} {B : (A1 → A2 → Mem → Option (Int32 × Mem)) → A1 → A2 → Mem → Option (Int32 × Mem)} (I : Nat → A1 → A2 → Mem → Prop) (hs : ∀ (n : Nat) (rc : A1 → A2 → Mem → Option (Int32 × Mem)) (a : A1) (b : A2) (M : Mem), I n a b M → (∀ m a' b' M', m < n → I m a' b' M' → Res Q (rc a' b' M')) → Res Q (B rc a b M)) : ∀ f n a b M, n < f → I n a b M → Res Q (it2 B f a b M) := by
  intro f
  induction f with
  | zero => intro n a b M h; omega
  | succ f ih => intro n a b M h hI; exact hs n _ a b M hI (fun m a' b' M' hm hI' => ih m a' b' M' (by omega) hI')
theorem lo3 {Q : Int32 → Mem → Prop} {A1 A2 A3 : Type} {B : (A1 → A2 → A3 → Mem → Option (Int32 × Mem)) → A1 → A2 → A3 → Mem → Option (Int32 × Mem)} (I : Nat → A1 → A2 → A3 → Mem → Prop) (hs : ∀ (n : Nat) (rc : A1 → A2 → A3 → Mem → Option (Int32 × Mem)) (a : A1) (b : A2) (c : A3) (M : Mem), I n a b c M → (∀ m a' b' c' M', m < n → I m a' b' c' M' → Res Q (rc a' b' c' M')) → Res Q (B rc a b c M)) : ∀ f n a b c M, n < f → I n a b c M → Res Q (it3 B f a b c M) := by
  intro f
  induction f with
  | zero => intro n a b c M h; omega
  | succ f ih => intro n a b c M h hI; exact hs n _ a b c M hI (fun m a' b' c' M' hm hI' => ih m a' b' c' M' (by omega) hI')
theorem lo4 {Q : Int32 → Mem → Prop} {A1 A2 A3 A4 : Type} {B : (A1 → A2 → A3 → A4 → Mem → Option (Int32 × Mem)) → A1 → A2 → A3 → A4 → Mem → Option (Int32 × Mem)} (I : Nat → A1 → A2 → A3 → A4 → Mem → Prop) (hs : ∀ (n : Nat) (rc : A1 → A2 → A3 → A4 → Mem → Option (Int32 × Mem)) (a : A1) (b : A2) (c : A3) (d : A4) (M : Mem), I n a b c d M → (∀ m a' b' c' d' M', m < n → I m a' b' c' d' M' → Res Q (rc a' b' c' d' M')) → Res Q (B rc a b c d M)) : ∀ f n a b c d M, n < f → I n a b c d M → Res Q (it4 B f a b c d M) := by
  intro f
  induction f with
  | zero => intro n a b c d M h; omega
  | succ f ih => intro n a b c d M h hI; exact hs n _ a b c d M hI (fun m a' b' c' d' M' hm hI' => ih m a' b' c' d' M' (by omega) hI')
/-! what a call that only asks leaves as it was -/
def Ec (M M' : Mem) : Prop := ∀ a, a ≠ 15 → a ≠ 23 → a ≠ 30 → a ≠ 45 → a ≠ 53 → a ≠ 60 → M' a = M a
def Em (N N' : Mem) : Prop := (∀ a, a = 1 ∨ a = 2 ∨ (4 ≤ a ∧ a ≤ 12) ∨ a = 20 → N' a = N a) ∧ N' 0 3 = N 0 3 ∧ N' 0 13 = N 0 13 ∧ N' 0 37 = N 0 37
theorem Ec.rfl' {M : Mem} : Ec M M := fun _ _ _ _ _ _ _ => rfl
theorem Em.rfl' {N : Mem} : Em N N := ⟨fun _ _ => rfl, rfl, rfl, rfl⟩
theorem Ec.trans {M M' M'' : Mem} (h : Ec M M') (g : Ec M' M'') : Ec M M'' := fun a h1 h2 h3 h4 h5 h6 => (g a h1 h2 h3 h4 h5 h6).trans (h a h1 h2 h3 h4 h5 h6)
theorem Em.trans {N N' N'' : Mem} (h : Em N N') (g : Em N' N'') : Em N N'' := ⟨fun a ha => (g.1 a ha).trans (h.1 a ha), g.2.1.trans h.2.1, g.2.2.1.trans h.2.2.1, g.2.2.2.trans h.2.2.2⟩
theorem Ec.u {M M' : Mem} {a k : Nat} {v : Int32} (h : Ec M M') (ha : a = 15 ∨ a = 23 ∨ a = 30 ∨ a = 45 ∨ a = 53 ∨ a = 60) : Ec M (up M' a k v) := fun c h1 h2 h3 h4 h5 h6 => by
  rw [up_ne (by omega)]
  exact h c h1 h2 h3 h4 h5 h6
theorem Em.u {N N' : Mem} {a k : Nat} {v : Int32} (h : Em N N') (ha : a = 3 ∨ (13 ≤ a ∧ a ≤ 19) ∨ a = 21) : Em N (up N' a k v) := by
  refine ⟨fun c hc => ?_, ?_, ?_, ?_⟩
  · rw [up_ne (by omega)]; exact h.1 c hc
  · rw [up_ne (by omega)]; exact h.2.1
  · rw [up_ne (by omega)]; exact h.2.2.1
  · rw [up_ne (by omega)]; exact h.2.2.2
theorem Em.u0 {N N' : Mem} {k : Nat} {v : Int32} (h : Em N N') (h1 : k ≠ 3) (h2 : k ≠ 13) (h3 : k ≠ 37) : Em N (up N' 0 k v) := by
  refine ⟨fun c hc => ?_, ?_, ?_, ?_⟩
  · rw [up_ne (by omega)]; exact h.1 c hc
  · rw [up_k _ _ _ _ _ (by omega)]; exact h.2.1
  · rw [up_k _ _ _ _ _ (by omega)]; exact h.2.2.1
  · rw [up_k _ _ _ _ _ (by omega)]; exact h.2.2.2
theorem RS.ec {nT nF nX nC nE nL nS b : Nat} {M M' : Mem} {g : Nat → Int32} (h : RS nT nF nX nC nE nL nS M b g) (hb : b = 1 ∨ b = 31) (e : Ec M M') : RS nT nF nX nC nE nL nS M' b g := by
  unfold RS at h ⊢
  have q : ∀ a, a ≠ 15 → a ≠ 23 → a ≠ 30 → a ≠ 45 → a ≠ 53 → a ≠ 60 → M' a = M a := e
  rw [q b (by omega) (by omega) (by omega) (by omega) (by omega) (by omega), q (b + 1) (by omega) (by omega) (by omega) (by omega) (by omega) (by omega), q (b + 2) (by omega) (by omega) (by omega) (by omega) (by omega) (by omega), q (b + 3) (by omega) (by omega) (by omega) (by omega) (by omega) (by omega), q (b + 4) (by omega) (by omega) (by omega) (by omega) (by omega) (by omega), q (b + 5) (by omega) (by omega) (by omega) (by omega) (by omega) (by omega), q (b + 6) (by omega) (by omega) (by omega) (by omega) (by omega) (by omega), q (b + 7) (by omega) (by omega) (by omega) (by omega) (by omega) (by omega), q (b + 8) (by omega) (by omega) (by omega) (by omega) (by omega) (by omega), q (b + 9) (by omega) (by omega) (by omega) (by omega) (by omega) (by omega), q (b + 10) (by omega) (by omega) (by omega) (by omega) (by omega) (by omega), q (b + 11) (by omega) (by omega) (by omega) (by omega) (by omega) (by omega), q (b + 12) (by omega) (by omega) (by omega) (by omega) (by omega) (by omega), q (b + 13) (by omega) (by omega) (by omega) (by omega) (by omega) (by omega), q (b + 16) (by omega) (by omega) (by omega) (by omega) (by omega) (by omega), q (b + 17) (by omega) (by omega) (by omega) (by omega) (by omega) (by omega), q (b + 28) (by omega) (by omega) (by omega) (by omega) (by omega) (by omega), q (b + 19) (by omega) (by omega) (by omega) (by omega) (by omega) (by omega), q (b + 18) (by omega) (by omega) (by omega) (by omega) (by omega) (by omega), q (b + 20) (by omega) (by omega) (by omega) (by omega) (by omega) (by omega), q (b + 21) (by omega) (by omega) (by omega) (by omega) (by omega) (by omega), q (b + 23) (by omega) (by omega) (by omega) (by omega) (by omega) (by omega), q (b + 24) (by omega) (by omega) (by omega) (by omega) (by omega) (by omega), q (b + 25) (by omega) (by omega) (by omega) (by omega) (by omega) (by omega), q (b + 26) (by omega) (by omega) (by omega) (by omega) (by omega) (by omega), q (b + 27) (by omega) (by omega) (by omega) (by omega) (by omega) (by omega)]
  exact h
theorem Inv.ee {M N M' N' : Mem} (h : Inv M N) (e1 : Ec M M') (e2 : Em N N') : Inv M' N' := by
  obtain ⟨⟨nT, nF, nX, nC, nE, nL, nS, hS⟩, hI, hB, hH, hP, hW⟩ := h
  have q : ∀ a, a ≠ 15 → a ≠ 23 → a ≠ 30 → a ≠ 45 → a ≠ 53 → a ≠ 60 → M' a = M a := e1
  refine ⟨⟨nT, nF, nX, nC, nE, nL, nS, ?_⟩, ?_, ?_, fun i hi => ?_, fun i hi => ?_, ?_⟩
  · rw [e2.1 1 (by omega)]; exact hS.ec (Or.inl rfl) e1
  · unfold RI at hI ⊢
    rw [q 0 (by omega) (by omega) (by omega) (by omega) (by omega) (by omega), e2.2.1, e2.1 2 (by omega)]
    rcases hI with hI | ⟨a1, a2, nT, nF, nX, nC, nE, nL, nS, hR⟩
    · exact Or.inl hI
    · exact Or.inr ⟨a1, a2, nT, nF, nX, nC, nE, nL, nS, hR.ec (Or.inr rfl) e1⟩
  · rw [q 61 (by omega) (by omega) (by omega) (by omega) (by omega) (by omega), q 62 (by omega) (by omega) (by omega) (by omega) (by omega) (by omega), e2.2.2.1, e2.1 12 (by omega)]; exact hB
  · rw [q (66 + 2 * i) (by omega) (by omega) (by omega) (by omega) (by omega) (by omega), q (67 + 2 * i) (by omega) (by omega) (by omega) (by omega) (by omega) (by omega), e2.1 4 (by omega), e2.1 5 (by omega), e2.1 6 (by omega)]; exact hH i hi
  · rw [q (75 + 3 * i) (by omega) (by omega) (by omega) (by omega) (by omega) (by omega), q (76 + 3 * i) (by omega) (by omega) (by omega) (by omega) (by omega) (by omega), q (77 + 3 * i) (by omega) (by omega) (by omega) (by omega) (by omega) (by omega), e2.1 7 (by omega), e2.1 8 (by omega), e2.1 9 (by omega), e2.1 10 (by omega), e2.1 11 (by omega)]; exact hP i hi
  · rw [q 0 (by omega) (by omega) (by omega) (by omega) (by omega) (by omega), q 64 (by omega) (by omega) (by omega) (by omega) (by omega) (by omega), e2.2.2.2, e2.1 20 (by omega)]; exact hW
/-! a value, and nothing changed but what is put aside -/
def OkC (M : Mem) (v : Int32) (z : Option (Int32 × Mem)) : Prop := Res (fun r M' => r = v ∧ Ec M M') z
def OkM (N : Mem) (v : Int32) (z : Option (Int32 × Mem)) : Prop := Res (fun r N' => r = v ∧ Em N N') z
theorem OkC.mk {M M' : Mem} {v : Int32} (e : Ec M M') : OkC M v (some (v, M')) := ⟨v, M', rfl, rfl, e⟩
theorem OkM.mk {N N' : Mem} {v : Int32} (e : Em N N') : OkM N v (some (v, N')) := ⟨v, N', rfl, rfl, e⟩
theorem OkC.then {M : Mem} {v : Int32} {Q : Int32 → Mem → Prop} {z : Option (Int32 × Mem)} {k : Int32 → Mem → Option (Int32 × Mem)} (h : OkC M v z) (i : ∀ M', Ec M M' → Res Q (k v M')) : Res Q (bd z k) := by
  obtain ⟨r, M', rfl, rfl, e⟩ := h
  exact i M' e
theorem OkM.then {N : Mem} {v : Int32} {Q : Int32 → Mem → Prop} {z : Option (Int32 × Mem)} {k : Int32 → Mem → Option (Int32 × Mem)} (h : OkM N v z) (i : ∀ N', Em N N' → Res Q (k v N')) : Res Q (bd z k) := by
  obtain ⟨r, N', rfl, rfl, e⟩ := h
  exact i N' e
theorem Same.ov {M N : Mem} {v : Int32} {x y : Option (Int32 × Mem)} (h : Inv M N) (hx : OkC M v x) (hy : OkM N v y) : Same x y := by
  obtain ⟨r, M', rfl, rfl, e1⟩ := hx
  obtain ⟨s, N', rfl, rfl, e2⟩ := hy
  exact ⟨_, M', N', rfl, rfl, h.ee e1 e2⟩
theorem Same.bv {M N : Mem} {v : Int32} {x y : Option (Int32 × Mem)} {k k' : Int32 → Mem → Option (Int32 × Mem)} (h : Inv M N) (hx : OkC M v x) (hy : OkM N v y) (i : ∀ M' N', Ec M M' → Em N N' → Inv M' N' → Same (k v M') (k' v N')) : Same (bd x k) (bd y k') := by
  obtain ⟨r, M', rfl, rfl, e1⟩ := hx
  obtain ⟨s, N', rfl, rfl, e2⟩ := hy
  exact i M' N' e1 e2 (h.ee e1 e2)
