/-! ONE INSTRUCTION, ONE ROW: the machine's step beside the program's as numbers (hf) -/
def Est (A : Nat → Prop) (E : State → Prop) : Prop := (∀ (s U : State) (locs : List Loc), s.WarmedH U.vm → va_S A s.heap U.heap locs → E s → E U) ∧ ∀ (a : Array Value) (U : State) (g : JFrame) (mk : MethodId), E U → E (U.calling g mk a)
def Ct (l : Launch) (E : State → Prop) (D : va_G) (K : Ks) (G : Gr) (ad : Nat → Nat) (A : Nat → Prop) (y : MethodName) (ws : List Cond) (rm : Room) (rt : FieldType) (av : List Value) (M : Mem) (r : Int32) (M' : Mem) : Prop :=
  Met l y ws rm (va_Pc av (fun U => va_P D classes (gws K G ad M) U.heap ∧ va_K D classes (gty K) U ∧ E U)) (va_Qi (fun (x : Int32) (_ : Unit) => x = r ∧ narrow rt (.int r) = .int r) (fun _ t => va_P D classes (gws K G ad M') t.heap) A) 0 0 A
def Cv (l : Launch) (E : State → Prop) (D : va_G) (K : Ks) (G : Gr) (ad : Nat → Nat) (A : Nat → Prop) (y : MethodName) (ws : List Cond) (rm : Room) (av : List Value) (M M' : Mem) : Prop :=
  Met l y ws rm (va_Pc av (fun U => va_P D classes (gws K G ad M) U.heap ∧ va_K D classes (gty K) U ∧ E U)) (va_Qv (fun (_ : Unit) => True) (fun _ t => va_P D classes (gws K G ad M') t.heap) A) 0 0 A
section
variable {p : Program} {l : Launch} {e : Env} {R : Room} {s : State} {m : MethodId} {args : Array Value} {below : List Frame} {meth : Method} {c : Code} {H : Heap} {locs : List Loc} {cells slots : Nat} {Q : State → Prop} {cc : ByteArray} {pc : Nat} {ls : Array Slot} {rest : List Value} {nL : Nat} {own : String} {D : va_G} {K : Ks} {G : Gr} {ad : Nat → Nat} {A : Nat → Prop} {M : Mem} {β : Type} {z : β}
theorem r_geti (S : CallFix p m c cc nL s args Tw own) (hK : va_K D classes (gty K) s) (hP : va_P D classes (gws K G ad M) H) {a ci k N index : Nat} {C : String} {T : u_T} {kk : Int32 → Option β} (hin : ∀ w ∈ u_ws C T N, w ∈ Tw) (hc : classes[ci]? = some (C, T, N)) (hci : ci < 20) (hk : k < N) (ha : gcl G a = ci) (hg : gor G a k = none ∧ gsz G a = N) (hlink : Cond.fieldLink own index (T k).1 (T k).2.1 (T k).2.2.1 ∈ Tw) (hdg : decode cc pc = .ok (.getfield index, 3)) (hf : vv (M a k) kk = some z)
    (w : ∀ x, kk x = some z → W p l e R s m args below meth c H locs cells slots Q (F0 m (pc + 3) ls (.int x :: rest))) : W p l e R s m args below meth c H locs cells slots Q (F0 m pc ls (.ref (ad a) :: rest)) := by
  have hl := gcl_lt ha (by omega)
  refine va_get (D := D) (ci := ci) (v := .int (M a k)) (C := C) (T := T) (N := N) S.1 S.2.1 S.2.2.2.2 hin S.2.2.2.1 hK hP a (fs := (List.range (gsz G a)).map (gfv G ad M a)) (by rw [gws_at hl, gce_ob ha hci]) hc k hk (S.2.2.2.2 _ hlink) (fun _ h => h) ?_ hdg (w _ hf)
  rw [List.getElem?_map, List.getElem?_range (by omega)]
  simp [gfv, hg.1]
theorem r_getr (S : CallFix p m c cc nL s args Tw own) (hK : va_K D classes (gty K) s) (hP : va_P D classes (gws K G ad M) H) {a ci k N index : Nat} {C : String} {T : u_T} {kk : Nat → Option β} (hin : ∀ w ∈ u_ws C T N, w ∈ Tw) (hc : classes[ci]? = some (C, T, N)) (hci : ci < 20) (hk : k < N) (ha : gcl G a = ci) (hg : gor G a k = some (grf G a k) ∧ gsz G a = N) (hlink : Cond.fieldLink own index (T k).1 (T k).2.1 (T k).2.2.1 ∈ Tw) (hdg : decode cc pc = .ok (.getfield index, 3)) (hf : vv (grf G a k) kk = some z)
    (w : ∀ b, b = grf G a k → kk b = some z → W p l e R s m args below meth c H locs cells slots Q (F0 m (pc + 3) ls (.ref (ad b) :: rest))) : W p l e R s m args below meth c H locs cells slots Q (F0 m pc ls (.ref (ad a) :: rest)) := by
  have hl := gcl_lt ha (by omega)
  refine va_get (D := D) (ci := ci) (v := .ref (ad (grf G a k))) (C := C) (T := T) (N := N) S.1 S.2.1 S.2.2.2.2 hin S.2.2.2.1 hK hP a (fs := (List.range (gsz G a)).map (gfv G ad M a)) (by rw [gws_at hl, gce_ob ha hci]) hc k hk (S.2.2.2.2 _ hlink) (fun _ h => h) ?_ hdg (w _ rfl hf)
  rw [List.getElem?_map, List.getElem?_range (by omega)]
  simp [gfv, hg.1]
theorem gce_put {K : Ks} {G : Gr} {ad : Nat → Nat} {M : Mem} {a ci k : Nat} {v : Int32} (ha : gcl G a = ci) (hci : ci < 20) (hg : gor G a k = none) : (Sum.inr (ci, ((List.range (gsz G a)).map (gfv G ad M a)).set k (.int v)) : va_E) = gce K G ad (up M a k v) a := by
  rw [gce_ob ha hci]
  congr 2
  apply List.ext_getElem?
  intro j
  by_cases hj : j = k
  · subst hj
    by_cases hl : j < gsz G a
    · rw [List.getElem?_set_self (by simpa using hl), List.getElem?_map, List.getElem?_range hl]
      simp [gfv, hg, up, upd]
    · rw [List.getElem?_eq_none (by simp; omega), List.getElem?_eq_none (by simp; omega)]
  · rw [List.getElem?_set_ne (Ne.symm hj), List.getElem?_map, List.getElem?_map]
    by_cases hl : j < gsz G a
    · rw [List.getElem?_range hl]
      simp [gfv, up, upd, hj]
    · rw [List.getElem?_eq_none (by simp; omega)]
      rfl
theorem r_putt (S : CallFix p m c cc nL s args Tw own) (hK : va_K D classes (gty K) s) (hG : Gok G ad A) (hP : va_P D classes (gws K G ad M) H) (hS : va_S A s.heap H locs) {a ci k N index : Nat} {C : String} {T : u_T} {v : Int32} {kk : Mem → Option β} (hin : ∀ w ∈ u_ws C T N, w ∈ Tw) (hc : classes[ci]? = some (C, T, N)) (hci : ci < 20) (ty0 : Nat → FieldType) (hty : ∀ k, k < N → parseFieldDescriptor (T k).2.2.1 = some (ty0 k)) (hnm : ∀ a, a < N → ∀ b, b < N → a ≠ b → (T a).2.1 ≠ (T b).2.1) (hk : k < N) (hfin : (T k).2.2.2 = false) (hn : narrow (ty0 k) (.int v) = .int v) (hfit : fits (ty0 k) (.int v) = true) (ha : gcl G a = ci) (hg : gor G a k = none ∧ gsz G a = N) (hlink : Cond.fieldLink own index (T k).1 (T k).2.1 (T k).2.2.1 ∈ Tw) (hdg : decode cc pc = .ok (.putfield index, 3)) (hf : mm (up M a k v) kk = some z)
    (w : ∀ M H locs, va_P D classes (gws K G ad M) H → va_S A s.heap H locs → kk M = some z → W p l e R s m args below meth c H locs cells slots Q (F0 m (pc + 3) ls rest)) : W p l e R s m args below meth c H locs cells slots Q (F0 m pc ls (.int v :: .ref (ad a) :: rest)) := by
  have hl := gcl_lt ha (by omega)
  refine va_put (D := D) (ci := ci) (v := .int v) (ty := ty0 k) (C := C) (T := T) (N := N) S.1 S.2.1 S.2.2.2.2 hin ty0 hty hnm S.2.2.2.1 hK hP hG.D hS a (fs := (List.range (gsz G a)).map (gfv G ad M a)) (by rw [gws_at hl, gce_ob ha hci]) hc k hk (S.2.2.2.2 _ hlink) (fun _ h => h) hfin (hty k hk) hn hfit (by simp; omega) hdg (fun H1 locs1 hP1 _ hS1 => ?_)
  rw [gce_put (K := K) ha hci hg.1, gws_set hl (fun b hb => up_ne hb)] at hP1
  exact w _ H1 locs1 hP1 hS1 hf
theorem r_iald (S : CallFix p m c cc nL s args Tw own) (hK : va_K D classes (gty K) s) (hP : va_P D classes (gws K G ad M) H) {a n : Nat} {i : Int32} {kk : Int32 → Option β} (ha : gcl G a = 20 ∧ gsz G a = n) (hdg : decode cc pc = .ok (.iaload, 1)) (hf : ld M a i n kk = some z)
    (w : ∀ x, kk x = some z → W p l e R s m args below meth c H locs cells slots Q (F0 m (pc + 1) ls (.int x :: rest))) : W p l e R s m args below meth c H locs cells slots Q (F0 m pc ls (.int i :: .ref (ad a) :: rest)) := by
  obtain ⟨h1, hf⟩ := ld_s hf
  have hl := gcl_lt ha.1 (by omega)
  exact va_iald S.1 S.2.1 hK hP a 0 (by rw [gws_at hl, gce_int ha.1]) rfl (by rw [ha.2]; exact h1) hdg (w _ hf)
theorem r_bald (S : CallFix p m c cc nL s args Tw own) (hK : va_K D classes (gty K) s) (hP : va_P D classes (gws K G ad M) H) {a n : Nat} {i : Int32} {kk : Int32 → Option β} (ha : gcl G a = 21 ∧ gsz G a = n) (hdg : decode cc pc = .ok (.baload, 1)) (hf : ld M a i n kk = some z)
    (w : ∀ x, kk x = some z → W p l e R s m args below meth c H locs cells slots Q (F0 m (pc + 1) ls (.int x :: rest))) : W p l e R s m args below meth c H locs cells slots Q (F0 m pc ls (.int i :: .ref (ad a) :: rest)) := by
  obtain ⟨h1, hf⟩ := ld_s hf
  have hl := gcl_lt ha.1 (by omega)
  exact va_bald S.1 S.2.1 hK hP a 1 (by rw [gws_at hl, gce_byte ha.1]) rfl (by rw [ha.2]; exact h1) hdg (w _ hf)
theorem r_iast (S : CallFix p m c cc nL s args Tw own) (hK : va_K D classes (gty K) s) (hG : Gok G ad A) (hP : va_P D classes (gws K G ad M) H) (hS : va_S A s.heap H locs) {a n : Nat} {i v : Int32} {kk : Mem → Option β} (ha : gcl G a = 20 ∧ gsz G a = n) (hdg : decode cc pc = .ok (.iastore, 1)) (hf : st M a i n v kk = some z)
    (w : ∀ M H locs, va_P D classes (gws K G ad M) H → va_S A s.heap H locs → kk M = some z → W p l e R s m args below meth c H locs cells slots Q (F0 m (pc + 1) ls rest)) : W p l e R s m args below meth c H locs cells slots Q (F0 m pc ls (.int v :: .int i :: .ref (ad a) :: rest)) := by
  obtain ⟨h1, hf⟩ := st_s hf
  have hl := gcl_lt ha.1 (by omega)
  refine va_iast S.1 S.2.1 hK hP hG.D hS a 0 (by rw [gws_at hl, gce_int ha.1]) rfl (by rw [ha.2]; exact h1) hdg (fun H1 locs1 hP1 _ hS1 => ?_)
  rw [← up_at (M := M) (a := a), ← gce_int (M := up M a i.toNatClampNeg v) ha.1, gws_set hl (fun b hb => up_ne hb)] at hP1
  exact w _ H1 locs1 hP1 hS1 hf
theorem r_bast (S : CallFix p m c cc nL s args Tw own) (hK : va_K D classes (gty K) s) (hG : Gok G ad A) (hP : va_P D classes (gws K G ad M) H) (hS : va_S A s.heap H locs) {a n : Nat} {i v : Int32} {kk : Mem → Option β} (ha : gcl G a = 21 ∧ gsz G a = n) (hdg : decode cc pc = .ok (.bastore, 1)) (hf : st M a i n v.toInt8.toInt32 kk = some z)
    (w : ∀ M H locs, va_P D classes (gws K G ad M) H → va_S A s.heap H locs → kk M = some z → W p l e R s m args below meth c H locs cells slots Q (F0 m (pc + 1) ls rest)) : W p l e R s m args below meth c H locs cells slots Q (F0 m pc ls (.int v :: .int i :: .ref (ad a) :: rest)) := by
  obtain ⟨h1, hf⟩ := st_s hf
  have hl := gcl_lt ha.1 (by omega)
  refine va_bast S.1 S.2.1 hK hP hG.D hS a 1 (by rw [gws_at hl, gce_byte ha.1]) rfl (by rw [ha.2]; exact h1) hdg (fun H1 locs1 hP1 _ hS1 => ?_)
  rw [vp_nar_byte, ← up_at (M := M) (a := a), ← gce_byte (M := up M a i.toNatClampNeg v.toInt8.toInt32) ha.1, gws_set hl (fun b hb => up_ne hb)] at hP1
  exact w _ H1 locs1 hP1 hS1 hf
theorem r_aald22 (S : CallFix p m c cc nL s args Tw own) (hK : va_K D classes (gty K) s) (hP : va_P D classes (gws K G ad M) H) {a n cq : Nat} {i : Int32} {kk : Nat → Option β} (ha : gcl G a = 22 ∧ gsz G a = n) (hcq : ∀ j, j < n → gor G a j = some (grf G a j) ∧ gcl G (grf G a j) = cq) (hdg : decode cc pc = .ok (.aaload, 1)) (hf : la G a i n kk = some z)
    (w : ∀ b, gcl G b = cq → kk b = some z → W p l e R s m args below meth c H locs cells slots Q (F0 m (pc + 1) ls (.ref (ad b) :: rest))) : W p l e R s m args below meth c H locs cells slots Q (F0 m pc ls (.int i :: .ref (ad a) :: rest)) := by
  obtain ⟨h1, hf⟩ := la_s hf
  have hl := gcl_lt ha.1 (by omega)
  obtain ⟨g1, g2⟩ := hcq i.toNatClampNeg (Nat.not_le.mp fun q => h1 (Or.inr q))
  have k := w _ g2 hf
  refine va_aldq S.1 S.2.1 hK hP a 2 (f := fun j => (gor G a j).map ad) (by rw [gws_at hl, gce_sh ha.1]) rfl (by rw [ha.2]; exact h1) hdg ?_
  rw [g1]
  exact k
theorem r_aald23 (S : CallFix p m c cc nL s args Tw own) (hK : va_K D classes (gty K) s) (hP : va_P D classes (gws K G ad M) H) {a n cq : Nat} {i : Int32} {kk : Nat → Option β} (ha : gcl G a = 23 ∧ gsz G a = n) (hcq : ∀ j, j < n → gor G a j = some (grf G a j) ∧ gcl G (grf G a j) = cq) (hdg : decode cc pc = .ok (.aaload, 1)) (hf : la G a i n kk = some z)
    (w : ∀ b, gcl G b = cq → kk b = some z → W p l e R s m args below meth c H locs cells slots Q (F0 m (pc + 1) ls (.ref (ad b) :: rest))) : W p l e R s m args below meth c H locs cells slots Q (F0 m pc ls (.int i :: .ref (ad a) :: rest)) := by
  obtain ⟨h1, hf⟩ := la_s hf
  have hl := gcl_lt ha.1 (by omega)
  obtain ⟨g1, g2⟩ := hcq i.toNatClampNeg (Nat.not_le.mp fun q => h1 (Or.inr q))
  have k := w _ g2 hf
  refine va_aldq S.1 S.2.1 hK hP a 3 (f := fun j => (gor G a j).map ad) (by rw [gws_at hl, gce_sl ha.1]) rfl (by rw [ha.2]; exact h1) hdg ?_
  rw [g1]
  exact k
theorem r_alen (S : CallFix p m c cc nL s args Tw own) (hK : va_K D classes (gty K) s) (hP : va_P D classes (gws K G ad M) H) {a : Nat} (ha : gcl G a = 20) (hdg : decode cc pc = .ok (.arraylength, 1))
    (w : W p l e R s m args below meth c H locs cells slots Q (F0 m (pc + 1) ls (.int (nI (gsz G a)) :: rest))) : W p l e R s m args below meth c H locs cells slots Q (F0 m pc ls (.ref (ad a) :: rest)) := by
  have hl := gcl_lt ha (by omega)
  exact va_alen S.1 S.2.1 hK hP a 0 (x := (gsz G a, .inl (M a))) (by rw [gws_at hl, gce_int ha]) rfl rfl hdg w
theorem r_copy (S : CallFix p m c cc nL s args Tw own) (hK : va_K D classes (gty K) s) (hG : Gok G ad A) (hP : va_P D classes (gws K G ad M) H) (hS : va_S A s.heap H locs) {a0 n0 a n1 index : Nat} {sp dp n : Int32} {kk : Mem → Option β} (ha0 : gcl G a0 = 20 ∧ gsz G a0 = n0) (ha : gcl G a = 20 ∧ gsz G a = n1) (hlink : Cond.methodLink own index arraycopyName ∈ Tw) (hnat : Cond.native arraycopyName ∈ Tw) (hstat : Cond.static arraycopyName ∈ Tw) (hini : Cond.initialized "java/lang/System" ∈ Tw) (hsz : ls.size = nL)
    (hfr : 1 ≤ R.frames) (hlo : (rest.map fun v => v.category).sum + (nativeFrameWords "java/lang/System" "arraycopy" 5 + 11) ≤ R.locals) (hdg : decode cc pc = .ok (.invokestatic index, 3)) (hf : cy M a0 sp n0 a dp n1 n kk = some z)
    (w : ∀ M H locs, va_P D classes (gws K G ad M) H → va_S A s.heap H locs → kk M = some z → W p l e R s m args below meth c H locs cells slots Q (F0 m (pc + 3) ls rest)) : W p l e R s m args below meth c H locs cells slots Q (F0 m pc ls (.int n :: .int dp :: .ref (ad a) :: .int sp :: .ref (ad a0) :: rest)) := by
  obtain ⟨h1, h2, h3, h4, h5, hf⟩ := cy_s hf
  have hl0 := gcl_lt ha0.1 (by omega)
  have hl := gcl_lt ha.1 (by omega)
  refine va_copyi S.1 S.2.1 (S.2.2.1.trans hsz.symm) S.2.2.2.1 (S.2.2.2.2 _ hlink) (S.2.2.2.2 _ hnat) (S.2.2.2.2 _ hstat) (S.2.2.2.2 _ hini) hK hP hG.D hS a0 a 0 0 (ty := .int) (by rw [gws_at hl0, gce_int ha0.1]) (by rw [gws_at hl, gce_int ha.1]) rfl rfl rfl h1 h2 h3 (by rw [ha0.2]; exact h4) (by rw [ha.2]; exact h5) (fun _ _ => rfl) hfr hlo hdg (fun H1 locs1 hP1 _ hS1 => ?_)
  rw [← cpm_at (M := M) (a := a), ← gce_int (M := cpm M a0 sp.toNatClampNeg a dp.toNatClampNeg n.toNatClampNeg) ha.1, gws_set hl (fun b hb => cpm_ne hb)] at hP1
  exact w _ H1 locs1 hP1 hS1 hf
theorem r_if_eq (S : CallFix p m c cc nL s args Tw own) {x : Int32} {off : Int} {tgt : Nat} {t f : Option β} (hdg : decode cc pc = .ok (.ifCond .eq off, 3)) (ht : (pc : Int) + off = (tgt : Int)) (hf : (if x = 0 then t else f) = some z)
    (kt : t = some z → W p l e R s m args below meth c H locs cells slots Q (F0 m tgt ls rest)) (kf : f = some z → W p l e R s m args below meth c H locs cells slots Q (F0 m (pc + 3) ls rest)) : W p l e R s m args below meth c H locs cells slots Q (F0 m pc ls (.int x :: rest)) :=
  lv_if_eq S.1 S.2.1 hdg ht (fun q => kt (by rw [if_pos q] at hf; exact hf)) (fun q => kf (by rw [if_neg q] at hf; exact hf))
theorem r_if_ne (S : CallFix p m c cc nL s args Tw own) {x : Int32} {off : Int} {tgt : Nat} {t f : Option β} (hdg : decode cc pc = .ok (.ifCond .ne off, 3)) (ht : (pc : Int) + off = (tgt : Int)) (hf : (if x = 0 then f else t) = some z)
    (kt : t = some z → W p l e R s m args below meth c H locs cells slots Q (F0 m tgt ls rest)) (kf : f = some z → W p l e R s m args below meth c H locs cells slots Q (F0 m (pc + 3) ls rest)) : W p l e R s m args below meth c H locs cells slots Q (F0 m pc ls (.int x :: rest)) :=
  lv_if_ne S.1 S.2.1 hdg ht (fun q => kt (by rw [if_neg q] at hf; exact hf)) (fun q => kf (by rw [if_pos q] at hf; exact hf))
theorem r_if_lt (S : CallFix p m c cc nL s args Tw own) {x : Int32} {off : Int} {tgt : Nat} {t f : Option β} (hdg : decode cc pc = .ok (.ifCond .lt off, 3)) (ht : (pc : Int) + off = (tgt : Int)) (hf : (if x < 0 then t else f) = some z)
    (kt : t = some z → W p l e R s m args below meth c H locs cells slots Q (F0 m tgt ls rest)) (kf : f = some z → W p l e R s m args below meth c H locs cells slots Q (F0 m (pc + 3) ls rest)) : W p l e R s m args below meth c H locs cells slots Q (F0 m pc ls (.int x :: rest)) :=
  lv_if_lt S.1 S.2.1 hdg ht (fun q => kt (by rw [if_pos q] at hf; exact hf)) (fun q => kf (by rw [if_neg q] at hf; exact hf))
theorem r_if_ge (S : CallFix p m c cc nL s args Tw own) {x : Int32} {off : Int} {tgt : Nat} {t f : Option β} (hdg : decode cc pc = .ok (.ifCond .ge off, 3)) (ht : (pc : Int) + off = (tgt : Int)) (hf : (if x < 0 then f else t) = some z)
    (kt : t = some z → W p l e R s m args below meth c H locs cells slots Q (F0 m tgt ls rest)) (kf : f = some z → W p l e R s m args below meth c H locs cells slots Q (F0 m (pc + 3) ls rest)) : W p l e R s m args below meth c H locs cells slots Q (F0 m pc ls (.int x :: rest)) :=
  lv_if_ge S.1 S.2.1 hdg ht (fun q => kt (by rw [if_neg (Int32.not_lt.mpr q)] at hf; exact hf)) (fun q => kf (by rw [if_pos (Int32.not_le.mp q)] at hf; exact hf))
theorem r_if_gt (S : CallFix p m c cc nL s args Tw own) {x : Int32} {off : Int} {tgt : Nat} {t f : Option β} (hdg : decode cc pc = .ok (.ifCond .gt off, 3)) (ht : (pc : Int) + off = (tgt : Int)) (hf : (if 0 < x then t else f) = some z)
    (kt : t = some z → W p l e R s m args below meth c H locs cells slots Q (F0 m tgt ls rest)) (kf : f = some z → W p l e R s m args below meth c H locs cells slots Q (F0 m (pc + 3) ls rest)) : W p l e R s m args below meth c H locs cells slots Q (F0 m pc ls (.int x :: rest)) :=
  lv_if_gt S.1 S.2.1 hdg ht (fun q => kt (by rw [if_pos q] at hf; exact hf)) (fun q => kf (by rw [if_neg q] at hf; exact hf))
theorem r_if_le (S : CallFix p m c cc nL s args Tw own) {x : Int32} {off : Int} {tgt : Nat} {t f : Option β} (hdg : decode cc pc = .ok (.ifCond .le off, 3)) (ht : (pc : Int) + off = (tgt : Int)) (hf : (if 0 < x then f else t) = some z)
    (kt : t = some z → W p l e R s m args below meth c H locs cells slots Q (F0 m tgt ls rest)) (kf : f = some z → W p l e R s m args below meth c H locs cells slots Q (F0 m (pc + 3) ls rest)) : W p l e R s m args below meth c H locs cells slots Q (F0 m pc ls (.int x :: rest)) :=
  lv_if_le S.1 S.2.1 hdg ht (fun q => kt (by rw [if_neg (Int32.not_lt.mpr q)] at hf; exact hf)) (fun q => kf (by rw [if_pos (Int32.not_le.mp q)] at hf; exact hf))
theorem r_icmp_eq (S : CallFix p m c cc nL s args Tw own) {x y : Int32} {off : Int} {tgt : Nat} {t f : Option β} (hdg : decode cc pc = .ok (.if_icmp .eq off, 3)) (ht : (pc : Int) + off = (tgt : Int)) (hf : (if x = y then t else f) = some z)
    (kt : t = some z → W p l e R s m args below meth c H locs cells slots Q (F0 m tgt ls rest)) (kf : f = some z → W p l e R s m args below meth c H locs cells slots Q (F0 m (pc + 3) ls rest)) : W p l e R s m args below meth c H locs cells slots Q (F0 m pc ls (.int y :: .int x :: rest)) :=
  lv_icmp_eq S.1 S.2.1 hdg ht (fun q => kt (by rw [if_pos q] at hf; exact hf)) (fun q => kf (by rw [if_neg q] at hf; exact hf))
theorem r_icmp_ne (S : CallFix p m c cc nL s args Tw own) {x y : Int32} {off : Int} {tgt : Nat} {t f : Option β} (hdg : decode cc pc = .ok (.if_icmp .ne off, 3)) (ht : (pc : Int) + off = (tgt : Int)) (hf : (if x = y then f else t) = some z)
    (kt : t = some z → W p l e R s m args below meth c H locs cells slots Q (F0 m tgt ls rest)) (kf : f = some z → W p l e R s m args below meth c H locs cells slots Q (F0 m (pc + 3) ls rest)) : W p l e R s m args below meth c H locs cells slots Q (F0 m pc ls (.int y :: .int x :: rest)) :=
  lv_icmp_ne S.1 S.2.1 hdg ht (fun q => kt (by rw [if_neg q] at hf; exact hf)) (fun q => kf (by rw [if_pos q] at hf; exact hf))
theorem r_icmp_lt (S : CallFix p m c cc nL s args Tw own) {x y : Int32} {off : Int} {tgt : Nat} {t f : Option β} (hdg : decode cc pc = .ok (.if_icmp .lt off, 3)) (ht : (pc : Int) + off = (tgt : Int)) (hf : (if x < y then t else f) = some z)
    (kt : t = some z → W p l e R s m args below meth c H locs cells slots Q (F0 m tgt ls rest)) (kf : f = some z → W p l e R s m args below meth c H locs cells slots Q (F0 m (pc + 3) ls rest)) : W p l e R s m args below meth c H locs cells slots Q (F0 m pc ls (.int y :: .int x :: rest)) :=
  lv_icmp_lt S.1 S.2.1 hdg ht (fun q => kt (by rw [if_pos q] at hf; exact hf)) (fun q => kf (by rw [if_neg q] at hf; exact hf))
theorem r_icmp_ge (S : CallFix p m c cc nL s args Tw own) {x y : Int32} {off : Int} {tgt : Nat} {t f : Option β} (hdg : decode cc pc = .ok (.if_icmp .ge off, 3)) (ht : (pc : Int) + off = (tgt : Int)) (hf : (if x < y then f else t) = some z)
    (kt : t = some z → W p l e R s m args below meth c H locs cells slots Q (F0 m tgt ls rest)) (kf : f = some z → W p l e R s m args below meth c H locs cells slots Q (F0 m (pc + 3) ls rest)) : W p l e R s m args below meth c H locs cells slots Q (F0 m pc ls (.int y :: .int x :: rest)) :=
  lv_icmp_ge S.1 S.2.1 hdg ht (fun q => kt (by rw [if_neg (Int32.not_lt.mpr q)] at hf; exact hf)) (fun q => kf (by rw [if_pos (Int32.not_le.mp q)] at hf; exact hf))
theorem r_icmp_gt (S : CallFix p m c cc nL s args Tw own) {x y : Int32} {off : Int} {tgt : Nat} {t f : Option β} (hdg : decode cc pc = .ok (.if_icmp .gt off, 3)) (ht : (pc : Int) + off = (tgt : Int)) (hf : (if y < x then t else f) = some z)
    (kt : t = some z → W p l e R s m args below meth c H locs cells slots Q (F0 m tgt ls rest)) (kf : f = some z → W p l e R s m args below meth c H locs cells slots Q (F0 m (pc + 3) ls rest)) : W p l e R s m args below meth c H locs cells slots Q (F0 m pc ls (.int y :: .int x :: rest)) :=
  lv_icmp_gt S.1 S.2.1 hdg ht (fun q => kt (by rw [if_pos q] at hf; exact hf)) (fun q => kf (by rw [if_neg q] at hf; exact hf))
theorem r_icmp_le (S : CallFix p m c cc nL s args Tw own) {x y : Int32} {off : Int} {tgt : Nat} {t f : Option β} (hdg : decode cc pc = .ok (.if_icmp .le off, 3)) (ht : (pc : Int) + off = (tgt : Int)) (hf : (if y < x then f else t) = some z)
    (kt : t = some z → W p l e R s m args below meth c H locs cells slots Q (F0 m tgt ls rest)) (kf : f = some z → W p l e R s m args below meth c H locs cells slots Q (F0 m (pc + 3) ls rest)) : W p l e R s m args below meth c H locs cells slots Q (F0 m pc ls (.int y :: .int x :: rest)) :=
  lv_icmp_le S.1 S.2.1 hdg ht (fun q => kt (by rw [if_neg (Int32.not_lt.mpr q)] at hf; exact hf)) (fun q => kf (by rw [if_pos (Int32.not_le.mp q)] at hf; exact hf))
theorem r_case {P : Prop} {x k : Int32} {t f : Option β} (hf : (if x = k then t else f) = some z) (kt : x = k → t = some z → P) (kf : ¬ x = k → f = some z → P) : P := by
  by_cases q : x = k
  · exact kt q (by rw [if_pos q] at hf; exact hf)
  · exact kf q (by rw [if_neg q] at hf; exact hf)
theorem r_vi {x : Int32} {kk : Int32 → Option β} (hf : vv x kk = some z) (w : ∀ y, kk y = some z → W p l e R s m args below meth c H locs cells slots Q (F0 m pc ls (.int y :: rest))) : W p l e R s m args below meth c H locs cells slots Q (F0 m pc ls (.int x :: rest)) := w x hf
theorem r_vl {x : Int64} {kk : Int64 → Option β} (hf : vv x kk = some z) (w : ∀ y, kk y = some z → W p l e R s m args below meth c H locs cells slots Q (F0 m pc ls (.long y :: rest))) : W p l e R s m args below meth c H locs cells slots Q (F0 m pc ls (.long x :: rest)) := w x hf
theorem r_idiv (S : CallFix p m c cc nL s args Tw own) {x y : Int32} {k : Option β} (hdg : decode cc pc = .ok (.idiv, 1)) (hf : dv y k = some z) (w : k = some z → W p l e R s m args below meth c H locs cells slots Q (F0 m (pc + 1) ls (.int (x / y) :: rest))) : W p l e R s m args below meth c H locs cells slots Q (F0 m pc ls (.int y :: .int x :: rest)) :=
  lv_idiv S.1 S.2.1 hdg (dv_s hf).1 (w (dv_s hf).2)
theorem r_irem (S : CallFix p m c cc nL s args Tw own) {x y : Int32} {k : Option β} (hdg : decode cc pc = .ok (.irem, 1)) (hf : dv y k = some z) (w : k = some z → W p l e R s m args below meth c H locs cells slots Q (F0 m (pc + 1) ls (.int (x - x / y * y) :: rest))) : W p l e R s m args below meth c H locs cells slots Q (F0 m pc ls (.int y :: .int x :: rest)) :=
  lv_irem S.1 S.2.1 hdg (dv_s hf).1 (w (dv_s hf).2)
end
