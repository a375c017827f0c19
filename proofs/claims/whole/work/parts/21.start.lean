/-! THE CLAIM OUT OF ONE WALK OF THE LAW'S BODY. Your part is whole_start (and what it stands on); all else here is the same for every law, but numbers. -/
def R_law : String := "TwinTablesLaw"
def lw_P (b : Addr) (xs : List Int32) (args : Array Value) (s : State) : Prop := args = #[.ref b] ∧ s.IntsAt b xs ∧ xs.length ≤ 3072 ∧ (Jvm.Cond.and given_1 narrow_1).before args s = true
def lw_Q (_ : Array Value) (s : State) (o : Outcome) (t : State) : Prop := o = .returned (some (.int 1)) ∧ Framed s o t [] 600000 7302250
def lw_Z (below : List Frame) (a : Array Value) (s : State) : State → Prop := fun t => ∃ o, t.status = .running ∧ Ended t below o ∧ lw_Q a s o t
/-- the law's own end, with 1 on the stack, nothing written that was there before, its room as the claim has it -/
theorem lw_ret {p : Program} {l : Launch} {e : Env} {s : State} {m : MethodId} {below : List Frame} {meth : Method} {c : Code} {b : Nat} (hx : p.tables.exec = Jvm.exec) (hb : c.code = code) (hr : meth.sig.returnType = ret) (hlocks : meth.locks = false) {pc : Nat} {H : Heap} {ls : Array Slot} (hdg : decode code pc = .ok (.ireturn, 1)) : W p l e room_1 s m #[Value.ref b] below meth c H [] 600000 7302250 (lw_Z below #[Value.ref b] s) (F0 m pc ls [.int 1]) := by
  intro T hT X
  obtain ⟨fs, hret, hrun, hended, hW, hframe⟩ := X.leave (v := some (.int 1)) (hlocks := hlocks) (fun h => by rw [hr] at h; cases h)
  have hmeth' : T.vm.method? m = some meth := X.method'
  refine ⟨T.setFrames fs, ?_, .returned (some (.int 1)), hrun, hended, rfl, ⟨_, rfl⟩, hW, hframe⟩
  jvm_step X.here [X.here.top, hx, hb, hdg, hmeth', hr, ret, narrow_b1]
  (try refine ⟨rfl, ?_⟩); (try refine ⟨rfl, ?_⟩)
  first | (intro acts; rw [hret _ acts rfl rfl rfl]) | rw [hret _ _ rfl rfl rfl]
  exact Steps.refl _
/-- what holds at the law's entry: the machine, the code, the tables' words (any of lw_tbl by 'hts w (by decide +kernel)'), the script of L ints xs at the cell b, what the Statement gives of the start (any of its parts by flat_of_before) -/
def lw_At (p : Program) (s : State) (m : MethodId) (meth : Method) (c : Code) (b L : Nat) (xs : Nat → Int32) : Prop :=
  p.tables.exec = Jvm.exec ∧ c.code = code ∧ meth.sig.returnType = ret ∧ c.maxLocals = 4 ∧ s.vm.findClass R_law = some m.cls ∧ (∀ w ∈ lw_tbl, w.before #[Value.ref b] s = true) ∧ va_X b L xs s s.heap ∧ b < s.heap.size ∧ meth.locks = false ∧ (Jvm.Cond.and given_1 narrow_1).before #[Value.ref b] s = true
def strT (i : Nat) : Term := .string "TwinTables$Tape" (([108, 114, 116, 97, 99, 101] : List Nat).getD i 0)
set_option maxHeartbeats 8000000 in
set_option maxRecDepth 100000 in
theorem st_E1 {s : State} {b : Nat} (hts : ∀ w ∈ lw_tbl, w.before #[Value.ref b] s = true) (hgv : (Jvm.Cond.and given_1 narrow_1).before #[Value.ref b] s = true) : ∃ (tC tA tP : Nat) (kK kV : Nat → Nat), E1 (fun q : Nat => s.heap.size ≤ q) tC tA tP kK kV s := by
  have hs := flat_of_before _ hgv
  have hA : ∀ a : Nat, a < s.heap.size → ¬ (fun q : Nat => s.heap.size ≤ q) a := fun a h => Nat.not_le.mpr h
  obtain ⟨tC, etC, htC⟩ := va_Tof (tm := (Term.static "TwinTables" "CUTS" "[I")) (ty := .int) (N := 5) (f := fun j => .int (cutsF j)) (by decide) (hs (.arrayOf (Term.static "TwinTables" "CUTS" "[I") .int) (by decide +kernel)) (va_eqt (hs (.eq (.length (Term.static "TwinTables" "CUTS" "[I")) (.int (Int32.ofNat 5))) (by decide +kernel))) (fun j hj => va_eqt (hs (.eq (.elem (Term.static "TwinTables" "CUTS" "[I") (.int (Int32.ofNat j))) (.int (cutsF j))) ((by decide +kernel : ∀ j, j < 5 → Cond.eq (.elem (Term.static "TwinTables" "CUTS" "[I") (.int (Int32.ofNat j))) (.int (cutsF j)) ∈ flatC (Jvm.Cond.and given_1 narrow_1)) j hj))) hA
  obtain ⟨tA, etA, htA⟩ := va_Tof (tm := (Term.static "TwinTables" "ABOVE" "[I")) (ty := .int) (N := 8) (f := fun j => .int (aboveF j)) (by decide) (hs (.arrayOf (Term.static "TwinTables" "ABOVE" "[I") .int) (by decide +kernel)) (va_eqt (hs (.eq (.length (Term.static "TwinTables" "ABOVE" "[I")) (.int (Int32.ofNat 8))) (by decide +kernel))) (fun j hj => va_eqt (hs (.eq (.elem (Term.static "TwinTables" "ABOVE" "[I") (.int (Int32.ofNat j))) (.int (aboveF j))) ((by decide +kernel : ∀ j, j < 8 → Cond.eq (.elem (Term.static "TwinTables" "ABOVE" "[I") (.int (Int32.ofNat j))) (.int (aboveF j)) ∈ flatC (Jvm.Cond.and given_1 narrow_1)) j hj))) hA
  obtain ⟨tP, etP, htP⟩ := va_Tof (tm := (Term.static "TwinTables" "PRICES" "[I")) (ty := .int) (N := 8) (f := fun j => .int (pricesF j)) (by decide) (hs (.arrayOf (Term.static "TwinTables" "PRICES" "[I") .int) (by decide +kernel)) (va_eqt (hs (.eq (.length (Term.static "TwinTables" "PRICES" "[I")) (.int (Int32.ofNat 8))) (by decide +kernel))) (fun j hj => va_eqt (hs (.eq (.elem (Term.static "TwinTables" "PRICES" "[I") (.int (Int32.ofNat j))) (.int (pricesF j))) ((by decide +kernel : ∀ j, j < 8 → Cond.eq (.elem (Term.static "TwinTables" "PRICES" "[I") (.int (Int32.ofNat j))) (.int (pricesF j)) ∈ flatC (Jvm.Cond.and given_1 narrow_1)) j hj))) hA
  obtain ⟨kK, kV, hSt, hkK⟩ := vk_Sof (N := 6) (tm := strT) (len := lenS) (byt := bytS) (args := #[Value.ref b]) (s := s) (by decide) (fun i hi => hs _ ((by decide +kernel : ∀ i, i < 6 → Cond.exactly (strT i) "java/lang/String" ∈ flatC (Jvm.Cond.and given_1 narrow_1)) i hi)) (fun i hi => hs _ ((by decide +kernel : ∀ i, i < 6 → Cond.eq (.field (strT i) "java/lang/String" "coder" "B") (.int 0) ∈ flatC (Jvm.Cond.and given_1 narrow_1)) i hi)) (fun i hi => hs _ ((by decide +kernel : ∀ i, i < 6 → Cond.arrayOf (.field (strT i) "java/lang/String" "value" "[B") .byte ∈ flatC (Jvm.Cond.and given_1 narrow_1)) i hi)) (fun i hi => hs _ ((by decide +kernel : ∀ i, i < 6 → Cond.eq (.length (.field (strT i) "java/lang/String" "value" "[B")) (.int (Int32.ofNat (lenS.getD i 0))) ∈ flatC (Jvm.Cond.and given_1 narrow_1)) i hi)) (fun i hi j hj => hs _ ((by decide +kernel : ∀ i, i < 6 → ∀ j, j < lenS.getD i 0 → Cond.eq (.elem (.field (strT i) "java/lang/String" "value" "[B") (.int (Int32.ofNat j))) (.int ((bytS.getD i []).getD j 0)) ∈ flatC (Jvm.Cond.and given_1 narrow_1)) i hi j hj)) (fun i j hi hj hij => ((by decide +kernel : ∀ i, i < 6 → ∀ j, j < 6 → i ≠ j → (Cond.not (Cond.eq (strT i) (strT j)) ∈ flatC (Jvm.Cond.and given_1 narrow_1) ∨ Cond.not (Cond.eq (strT j) (strT i)) ∈ flatC (Jvm.Cond.and given_1 narrow_1))) i hi j hj hij).elim (fun h => Or.inl (hs _ h)) (fun h => Or.inr (hs _ h))) hA
  exact ⟨tC, tA, tP, kK, kV, ⟨va_Zof (hts _ (tb_2 (List.mem_of_getElem? (i := 194) rfl))) (hts _ (tw_lw k_63)) etC hA, htC⟩, ⟨va_Zof (hts _ (tb_2 (List.mem_of_getElem? (i := 217) rfl))) (hts _ (tw_lw k_63)) etA hA, htA⟩, ⟨va_Zof (hts _ (tb_2 (List.mem_of_getElem? (i := 199) rfl))) (hts _ (tw_lw k_63)) etP hA, htP⟩, va_Nw.of rfl (hts _ k_495), va_Nw.of rfl (hts _ k_473), va_Nw.of rfl (hts _ k_828), va_Nw.of rfl (hts _ k_1004), va_Nw.of rfl (hts _ k_1099), hSt, va_Zof (hts _ (tb_3 (List.mem_of_getElem? (i := 37) rfl))) (hts _ (tw_lw k_75)) (va_eqi (hs (.eq (.static "java/lang/String" "COMPACT_STRINGS" "Z") (.int 1)) (by decide +kernel))) hA, vk_R.of (A := #[Value.ref b]) (hts _ (tb_3 (List.mem_of_getElem? (i := 23) rfl))) (hkK 0 (by decide)), vk_R.of (A := #[Value.ref b]) (hts _ (tb_3 (List.mem_of_getElem? (i := 76) rfl))) (hkK 1 (by decide)), vk_R.of (A := #[Value.ref b]) (hts _ (tb_3 (List.mem_of_getElem? (i := 77) rfl))) (hkK 2 (by decide)), vk_R.of (A := #[Value.ref b]) (hts _ (tb_3 (List.mem_of_getElem? (i := 115) rfl))) (hkK 3 (by decide)), vk_R.of (A := #[Value.ref b]) (hts _ (tb_3 (List.mem_of_getElem? (i := 116) rfl))) (hkK 4 (by decide)), vk_R.of (A := #[Value.ref b]) (hts _ (tb_3 (List.mem_of_getElem? (i := 117) rfl))) (hkK 5 (by decide)), va_Zqof (hts _ (tb_3 (List.mem_of_getElem? (i := 53) rfl))) (hts _ (tw_lw k_77)) (hs (.isRef (.static "jdk/internal/util/Preconditions" "SIOOBE_FORMATTER" "Ljava/util/function/BiFunction;")) (by decide +kernel)) hA⟩
theorem st_EN {s : State} {b : Nat} (hts : ∀ w ∈ lw_tbl, w.before #[Value.ref b] s = true) : EN s := ⟨va_Nw.of rfl (hts _ k_92), va_Nw.of rfl (hts _ k_98), va_Nw.of rfl (hts _ k_143), va_Nw.of rfl (hts _ k_175), va_Nw.of rfl (hts _ k_188), va_Nw.of rfl (hts _ k_211), va_Nw.of rfl (hts _ k_279), va_Nw.of rfl (hts _ k_330), va_Nw.of rfl (hts _ k_347), va_Nw.of rfl (hts _ k_352), va_AO.of (hts _ k_326), va_AO.of (hts _ k_328)⟩
theorem st_K {s : State} {b : Nat} (hts : ∀ w ∈ lw_tbl, w.before #[Value.ref b] s = true) : ∃ (D : va_G) (K : Ks), va_K D classes (gty K) s := by
  have htw : ∀ w ∈ Tw, w.before #[Value.ref b] s = true := fun w h => hts w (tw_lw h)
  obtain ⟨cI, kI, mI, i1, i2, i3⟩ := Cond.arrayClass_spec (htw _ k_140)
  obtain ⟨cB, kB, mB, b1, b2, b3⟩ := Cond.arrayClass_spec (htw _ k_324)
  obtain ⟨mS, cS, kS, xS1, xS2, xS3, xS4, xS5⟩ := Cond.arrayOver_spec (hts _ k_326)
  obtain ⟨mT, cT, kT, xT1, xT2, xT3, xT4, xT5⟩ := Cond.arrayOver_spec (hts _ k_328)
  have h : ∀ k : Nat, ∃ x : ClassId × (Nat → Nat), ∀ q : vw_C, classes[k]? = some q → u_Kn s q.1 q.2.1 q.2.2 x.1 x.2 := by
    intro k
    match k with
    | 0 => obtain ⟨c, iS, h⟩ := u_known (C := RX0) (T := TX0) (N := 8) (n := 8) htw inX0 (htw _ k_97); exact ⟨(c, iS), fun q hq => by cases hq; exact h⟩
    | 1 => obtain ⟨c, iS, h⟩ := u_known (C := RX1) (T := TX1) (N := 6) (n := 6) htw inX1 (htw _ k_210); exact ⟨(c, iS), fun q hq => by cases hq; exact h⟩
    | 2 => obtain ⟨c, iS, h⟩ := u_known (C := RX2) (T := TX2) (N := 5) (n := 5) htw inX2 (htw _ k_187); exact ⟨(c, iS), fun q hq => by cases hq; exact h⟩
    | 3 => obtain ⟨c, iS, h⟩ := u_known (C := RX3) (T := TX3) (N := 2) (n := 2) htw inX3 (htw _ k_174); exact ⟨(c, iS), fun q hq => by cases hq; exact h⟩
    | 4 => obtain ⟨c, iS, h⟩ := u_known (C := RX4) (T := TX4) (N := 3) (n := 3) htw inX4 (htw _ k_329); exact ⟨(c, iS), fun q hq => by cases hq; exact h⟩
    | 5 => obtain ⟨c, iS, h⟩ := u_known (C := RX5) (T := TX5) (N := 5) (n := 5) htw inX5 (htw _ k_346); exact ⟨(c, iS), fun q hq => by cases hq; exact h⟩
    | 6 => obtain ⟨c, iS, h⟩ := u_known (C := RX6) (T := TX6) (N := 10) (n := 10) htw inX6 (htw _ k_91); exact ⟨(c, iS), fun q hq => by cases hq; exact h⟩
    | 7 => obtain ⟨c, iS, h⟩ := u_known (C := RX7) (T := TX7) (N := 11) (n := 11) htw inX7 (htw _ k_278); exact ⟨(c, iS), fun q hq => by cases hq; exact h⟩
    | 8 => obtain ⟨c, iS, h⟩ := u_known (C := RX8) (T := TX8) (N := 7) (n := 7) htw inX8 (htw _ k_142); exact ⟨(c, iS), fun q hq => by cases hq; exact h⟩
    | 9 => obtain ⟨c, iS, h⟩ := u_known (C := RX9) (T := TX9) (N := 8) (n := 8) htw inX9 (htw _ k_83); exact ⟨(c, iS), fun q hq => by cases hq; exact h⟩
    | 10 => obtain ⟨c, iS, h⟩ := u_known (C := RX10) (T := TX10) (N := 39) (n := 39) htw inX10 (htw _ k_1101); exact ⟨(c, iS), fun q hq => by cases hq; exact h⟩
    | k + 11 => exact ⟨(cI, fun _ => 0), fun q hq => by simp [classes] at hq⟩
  obtain ⟨f, hf⟩ := Classical.axiomOfChoice h
  refine ⟨(fun k => (f k).1, fun k => (f k).2), (cI, cB, cS, cT), fun k q hq => hf k q hq, fun k q hq => ?_⟩
  match k, hq with
  | 0, hq => cases hq; exact ⟨fun _ _ => ⟨(fun _ h => by cases h), kI, i2, mI, i3⟩, i1⟩
  | 1, hq => cases hq; exact ⟨fun _ _ => ⟨(fun _ h => by cases h), kB, b2, mB, b3⟩, b1⟩
  | 2, hq => cases hq; exact ⟨fun _ _ => ⟨(fun _ h => by cases h), kS, xS3, mS, xS4⟩, kS, mS, xS3, xS4, xS1, xS5⟩
  | 3, hq => cases hq; exact ⟨fun _ _ => ⟨(fun _ h => by cases h), kT, xT3, mT, xT4⟩, kT, mT, xT3, xT4, xT1, xT5⟩
  | k + 4, hq => simp [gty] at hq
def M0c : Mem := fun i j => if gcl G1 i = 6 then (if j = 7 then 7700 else if j = 8 then 1 else 0) else if gcl G1 i = 4 then (if j = 0 then -1 else 0) else 0
def M0m : Mem := fun i => if i = 1 then upd (upd (fun _ => 0) (7 : Int32).toNatClampNeg 1) (8 : Int32).toNatClampNeg 7700 else if i = 4 then upd (upd (upd (upd (fun _ => 0) (0 : Int32).toNatClampNeg (-1)) (1 : Int32).toNatClampNeg (-1)) (2 : Int32).toNatClampNeg (-1)) (3 : Int32).toNatClampNeg (-1) else fun _ => 0
theorem up_none {f : Nat → Option Nat} {k : Nat} {v : Option Nat} : va_up f k v = fun j => if j = k then v else f j := rfl
theorem w1_at (K : Ks) (a : Nat → Nat) : ∀ i, i < 90 → (w_X9 K a)[i]? = some (a i, gce K G1 a M0c i) := by
  intro i hi
  have hg : ∀ n, n < 90 → n = i → (w_X9 K a)[n]? = some (a n, gce K G1 a M0c n) := by
    intro n hn _
    match n, hn with
    | 0, _ => rfl
    | 1, _ => rfl
    | 2, _ => rfl
    | 3, _ => rfl
    | 4, _ => rfl
    | 5, _ => rfl
    | 6, _ => rfl
    | 7, _ => rfl
    | 8, _ => rfl
    | 9, _ => rfl
    | 10, _ => rfl
    | 11, _ => rfl
    | 12, _ => rfl
    | 13, _ => rfl
    | 14, _ => rfl
    | 15, _ => rfl
    | 16, _ => rfl
    | 17, _ => rfl
    | 18, _ => rfl
    | 19, _ => rfl
    | 20, _ => rfl
    | 21, _ => rfl
    | 22, _ => rfl
    | 23, _ => rfl
    | 24, _ => rfl
    | 25, _ => rfl
    | 26, _ => rfl
    | 27, _ => rfl
    | 28, _ => rfl
    | 29, _ => rfl
    | 30, _ => rfl
    | 31, _ => rfl
    | 32, _ => rfl
    | 33, _ => rfl
    | 34, _ => rfl
    | 35, _ => rfl
    | 36, _ => rfl
    | 37, _ => rfl
    | 38, _ => rfl
    | 39, _ => rfl
    | 40, _ => rfl
    | 41, _ => rfl
    | 42, _ => rfl
    | 43, _ => rfl
    | 44, _ => rfl
    | 45, _ => rfl
    | 46, _ => rfl
    | 47, _ => rfl
    | 48, _ => rfl
    | 49, _ => rfl
    | 50, _ => rfl
    | 51, _ => rfl
    | 52, _ => rfl
    | 53, _ => rfl
    | 54, _ => rfl
    | 55, _ => rfl
    | 56, _ => rfl
    | 57, _ => rfl
    | 58, _ => rfl
    | 59, _ => rfl
    | 60, _ => rfl
    | 61, _ => rfl
    | 62, _ => rfl
    | 63, _ => rfl
    | 64, _ => rfl
    | 65, _ => exact congrArg (fun z => some (a 65, (Sum.inl (K.2.2.1, 4, Sum.inr (Sum.inr (Sum.inr (Sum.inr z)))) : va_E))) (funext fun j => by match j with | 0 => rfl | 1 => rfl | 2 => rfl | 3 => rfl | j + 4 => rfl)
    | 66, _ => rfl
    | 67, _ => rfl
    | 68, _ => rfl
    | 69, _ => rfl
    | 70, _ => rfl
    | 71, _ => rfl
    | 72, _ => rfl
    | 73, _ => rfl
    | 74, _ => exact congrArg (fun z => some (a 74, (Sum.inl (K.2.2.2, 5, Sum.inr (Sum.inr (Sum.inr (Sum.inr z)))) : va_E))) (funext fun j => by match j with | 0 => rfl | 1 => rfl | 2 => rfl | 3 => rfl | 4 => rfl | j + 5 => rfl)
    | 75, _ => rfl
    | 76, _ => rfl
    | 77, _ => rfl
    | 78, _ => rfl
    | 79, _ => rfl
    | 80, _ => rfl
    | 81, _ => rfl
    | 82, _ => rfl
    | 83, _ => rfl
    | 84, _ => rfl
    | 85, _ => rfl
    | 86, _ => rfl
    | 87, _ => rfl
    | 88, _ => rfl
    | 89, _ => rfl
    | n + 90, h => omega
  exact hg i hi rfl
theorem w2_at (K : Ks) (a : Nat → Nat) : ∀ i, i < 22 → (w_X10 K a)[i]? = some (a i, gce K G2 a M0m i) := by
  intro i hi
  match i, hi with
  | 0, _ => rfl
  | 1, _ => rfl
  | 2, _ => rfl
  | 3, _ => rfl
  | 4, _ => rfl
  | 5, _ => rfl
  | 6, _ => rfl
  | 7, _ => rfl
  | 8, _ => rfl
  | 9, _ => rfl
  | 10, _ => rfl
  | 11, _ => rfl
  | 12, _ => rfl
  | 13, _ => rfl
  | 14, _ => rfl
  | 15, _ => rfl
  | 16, _ => rfl
  | 17, _ => rfl
  | 18, _ => rfl
  | 19, _ => rfl
  | 20, _ => rfl
  | 21, _ => rfl
  | n + 22, h => omega
theorem w1_eq (K : Ks) (a : Nat → Nat) : w_X9 K a = gws K G1 a M0c := by
  apply List.ext_getElem?
  intro i
  by_cases h : i < 90
  · rw [w1_at K a i h, gws_at (show i < G1.length from h)]
  · rw [List.getElem?_eq_none (show (w_X9 K a).length ≤ i from Nat.not_lt.mp h), List.getElem?_eq_none (show (gws K G1 a M0c).length ≤ i by simp [gws]; exact Nat.not_lt.mp h)]
theorem w2_eq (K : Ks) (a : Nat → Nat) : w_X10 K a = gws K G2 a M0m := by
  apply List.ext_getElem?
  intro i
  by_cases h : i < 22
  · rw [w2_at K a i h, gws_at (show i < G2.length from h)]
  · rw [List.getElem?_eq_none (show (w_X10 K a).length ≤ i from Nat.not_lt.mp h), List.getElem?_eq_none (show (gws K G2 a M0m).length ≤ i by simp [gws]; exact Nat.not_lt.mp h)]
theorem vP_l {D : va_G} {cl : List vw_C} {w1 w2 : va_W} {H : Heap} (h : va_P D cl (w1 ++ w2) H) : va_P D cl w1 H := fun k q hk => h k q (by rw [List.getElem?_append_left (List.getElem?_eq_some_iff.mp hk).1]; exact hk)
theorem vP_r {D : va_G} {cl : List vw_C} {w1 w2 : va_W} {H : Heap} (h : va_P D cl (w1 ++ w2) H) : va_P D cl w2 H := fun k q hk => h (w1.length + k) q (by rw [List.getElem?_append_right (by omega)]; simpa using hk)
theorem two_of {K : Ks} {s : State} {a1 a2 : Nat → Nat} {M1 M2 : Mem} (h : va_D (fun q : Nat => s.heap.size ≤ q) (gws K G1 a1 M1 ++ gws K G2 a2 M2)) : Two s a1 a2 := by
  have l1 : ∀ i, i < G1.length → (gws K G1 a1 M1 ++ gws K G2 a2 M2)[i]? = some (a1 i, gce K G1 a1 M1 i) := fun i hi => by
    rw [List.getElem?_append_left (by simp [gws]; exact hi), gws_at hi]
  have l2 : ∀ i, i < G2.length → (gws K G1 a1 M1 ++ gws K G2 a2 M2)[G1.length + i]? = some (a2 i, gce K G2 a2 M2 i) := fun i hi => by
    rw [List.getElem?_append_right (by simp [gws])]
    simp only [gws, List.length_map, List.length_range, Nat.add_sub_cancel_left]
    exact gws_at hi
  refine ⟨fun i j hi hj e => h.1 i j _ _ (l1 i hi) (l1 j hj) e, fun i j hi hj e => ?_, fun i j hi hj e => ?_, fun i hi => h.2 i _ (l1 i hi), fun i hi => h.2 _ _ (l2 i hi)⟩
  · have := h.1 _ _ _ _ (l2 i hi) (l2 j hj) e
    omega
  · have := h.1 _ _ _ _ (l1 i hi) (l2 j hj) e
    omega
set_option maxHeartbeats 8000000 in
set_option maxRecDepth 100000 in
theorem whole_of {I : Mem → Mem → Prop} (op : AllOps I) (hI : I M0c M0m) {p : Program} {e : Env} {s : State} {m : MethodId} {below : List Frame} {meth : Method} {c : Code} (l : Launch) {b L : Nat} {xs : Nat → Int32} (hL : L ≤ 3072) (C0 : lw_At p s m meth c b L xs) : W p l e room_1 s m #[Value.ref b] below meth c s.heap [] 0 0 (lw_Z below #[Value.ref b] s) (entryFrame m ([Value.ref b] : List Value).toArray 4) := by
  obtain ⟨hx, hb, hr, hml, hown, hts, hX, hbl, hlocks, hgv⟩ := id C0
  have ht : ∀ w ∈ Tw, w.before #[Value.ref b] s = true := fun w h => hts w (tw_lw h)
  have S : CallFix p m c cL_law 4 s #[Value.ref b] Tw RL := ⟨hx, hb, hml, hown, ht⟩
  obtain ⟨tC, tA, tP, kK, kV, hE⟩ := st_E1 hts hgv
  have hN := st_EN hts
  obtain ⟨D, K, hK⟩ := st_K hts
  have hA : ∀ q : Nat, s.heap.size ≤ q → (fun q : Nat => s.heap.size ≤ q) q := fun _ h => h
  have hS : va_S (fun q : Nat => s.heap.size ≤ q) s.heap s.heap [] := va_S.rf
  have hP : va_P D classes [] s.heap := fun k q h => by simp at h
  have hD : va_D (fun q : Nat => s.heap.size ≤ q) [] := ⟨fun i j p q h => by simp at h, fun k q h => by simp at h⟩
  have hl := lv_entry ([.ref b]) (n := 4) (Nat.le_of_ble_eq_true rfl)
  rw [lg_entry_eq]
  generalize (lg_sl ([.ref b]) ++ List.replicate (4 - (lg_sl ([.ref b])).length) Slot.unset).toArray = ls at hl ⊢
  have hl : lv_has ls 4 [(0, .ref b)] := hl
  refine va_new (ci := 9) (fs := [.null, .null, .int 0, .null, .null, .int 0, .null, .null]) (C := RX9) (T := TX9) (N := 8) hx hb ht inX9 tyX9 tyX9_ok hown (ht _ k_82) (ht _ k_83) (ht _ k_63) hK hP hD hS hA rfl (fun j hj => by rcases (show j = 0 ∨ j = 1 ∨ j = 2 ∨ j = 3 ∨ j = 4 ∨ j = 5 ∨ j = 6 ∨ j = 7 by omega) with rfl | rfl | rfl | rfl | rfl | rfl | rfl | rfl <;> rfl) (Nat.le_of_ble_eq_true rfl) (Nat.le_of_ble_eq_true rfl) dL_law_0 (fun q1 H hP hD hS => ?_)
  refine lv_dup hx hb dL_law_3 rfl ?_
  refine n_init (ws := []) (rm := rn_X9) (wf := w_X9 K) (rest := [.ref q1]) S hK hN hP hD hS hA ⟨callB_of 0 ht (tw_good k_86) rfl rfl rfl (ht _ k_63) (ht _ k_84) (by decide +kernel) ⟨Nat.le_of_ble_eq_true rfl, Nat.le_of_ble_eq_true rfl⟩, rfl, ht _ k_85⟩ hl.1 (Nat.le_of_ble_eq_true rfl) dL_law_4 ⟨Nat.le_of_ble_eq_true rfl, Nat.le_of_ble_eq_true rfl⟩ n_X9 (fun u1 H locs eu1 hPn hDn hS => ?_)
  subst eu1
  have hP : va_P D classes (w_X9 K u1) H := hPn
  have hD : va_D (fun q : Nat => s.heap.size ≤ q) (w_X9 K u1) := hDn
  refine lv_astore_n (lv' := [(1, .ref (u1 0)), (0, .ref b)]) hx hb dL_law_7 rfl hl (by decide) rfl (fun ls hl => ?_)
  refine va_new (ci := 10) (fs := [.null, .null, .null, .int 0, .null, .null, .null, .null, .null, .null, .null, .null, .null, .int 0, .int 0, .int 0, .int 0, .int 0, .int 0, .int 0, .int 0, .int 0, .int 0, .int 0, .null, .null, .int 0, .int 0, .null, .null, .null, .int 0, .int 0, .int 0, .null, .null, .null, .int 0, .null]) (C := RX10) (T := TX10) (N := 39) hx hb ht inX10 tyX10 tyX10_ok hown (ht _ k_1100) (ht _ k_1101) (ht _ k_73) hK hP hD hS hA rfl (fun j hj => by rcases (show j = 0 ∨ j = 1 ∨ j = 2 ∨ j = 3 ∨ j = 4 ∨ j = 5 ∨ j = 6 ∨ j = 7 ∨ j = 8 ∨ j = 9 ∨ j = 10 ∨ j = 11 ∨ j = 12 ∨ j = 13 ∨ j = 14 ∨ j = 15 ∨ j = 16 ∨ j = 17 ∨ j = 18 ∨ j = 19 ∨ j = 20 ∨ j = 21 ∨ j = 22 ∨ j = 23 ∨ j = 24 ∨ j = 25 ∨ j = 26 ∨ j = 27 ∨ j = 28 ∨ j = 29 ∨ j = 30 ∨ j = 31 ∨ j = 32 ∨ j = 33 ∨ j = 34 ∨ j = 35 ∨ j = 36 ∨ j = 37 ∨ j = 38 by omega) with rfl | rfl | rfl | rfl | rfl | rfl | rfl | rfl | rfl | rfl | rfl | rfl | rfl | rfl | rfl | rfl | rfl | rfl | rfl | rfl | rfl | rfl | rfl | rfl | rfl | rfl | rfl | rfl | rfl | rfl | rfl | rfl | rfl | rfl | rfl | rfl | rfl | rfl | rfl <;> rfl) (Nat.le_of_ble_eq_true rfl) (Nat.le_of_ble_eq_true rfl) dL_law_8 (fun q2 H hP hD hS => ?_)
  refine lv_dup hx hb dL_law_11 rfl ?_
  refine n_init (ws := w_X9 K u1) (rm := rn_X10) (wf := w_X10 K) (rest := [.ref q2]) S hK hN hP hD hS hA ⟨callB_of 0 ht (tw_good k_1104) rfl rfl rfl (ht _ k_73) (ht _ k_1102) (by decide +kernel) ⟨Nat.le_of_ble_eq_true rfl, Nat.le_of_ble_eq_true rfl⟩, rfl, ht _ k_1103⟩ hl.1 (Nat.le_of_ble_eq_true rfl) dL_law_12 ⟨Nat.le_of_ble_eq_true rfl, Nat.le_of_ble_eq_true rfl⟩ n_X10 (fun u2 H locs eu2 hPn hDn hS => ?_)
  subst eu2
  rw [w1_eq, w2_eq] at hPn hDn
  refine lv_astore_n (lv' := [(2, .ref (u2 0)), (1, .ref (u1 0)), (0, .ref b)]) hx hb dL_law_15 rfl hl (by decide) rfl (fun ls hl => ?_)
  refine lv_iconst (v := 0) hx hb dL_law_16 (by decide) ?_
  refine lv_istore_n (lv' := [(3, .int 0), (2, .ref (u2 0)), (1, .ref (u1 0)), (0, .ref b)]) hx hb dL_law_17 rfl hl (by decide) rfl (fun ls hl => ?_)
  refine W.widen (k := 112) (n := 15807) (Nat.le_of_ble_eq_true rfl) (Nat.le_of_ble_eq_true rfl) ?_
  refine law_loop S hK hE (two_of hDn) hX hbl hL op (fun H locs ls hS => ?_) (L + 7) 0 M0c M0m H locs ls (by omega) (by omega) hI (vP_l hPn) (vP_r hPn) hS (lv_sub hl [3, 2, 1, 0] rfl)
  refine lv_iconst (v := 1) hx hb dL_law_1676 (by decide) ?_
  refine va_forget (fun q hq => hS.2.2 q hq) ?_
  refine W.widen (k := 600000) (n := 7302250) (Nat.le_of_ble_eq_true rfl) (Nat.le_of_ble_eq_true rfl) ?_
  exact lw_ret hx hb hr hlocks dL_law_1677
