section
variable {p : Program} {l : Launch} {e : Env} {R : Room} {s : State} {m : MethodId} {args : Array Value} {below : List Frame} {meth : Method} {c : Code} {H : Heap} {locs : List Loc} {cells slots : Nat} {Q : State → Prop} {cc : ByteArray} {pc : Nat} {ls : Array Slot} {rest st0 : List Value} {nL : Nat} {own : String} {D : va_G} {K : Ks} {G : Gr} {ad : Nat → Nat} {A : Nat → Prop} {M : Mem} {β : Type} {z : β} {E : State → Prop}
theorem ct_blind (hst : Est A E) {av : List Value} : FrameBlind (va_Pc av (fun U => va_P D classes (gws K G ad M) U.heap ∧ va_K D classes (gty K) U ∧ E U)) := fun a U g mk q => by
  obtain ⟨q0, qP, qK, qE⟩ := q
  exact ⟨q0, qP, va_K.moved (u := U) (U := U.calling g mk a) (Vm.Alike.refl U.vm) qK, hst.2 a U g mk qE⟩
theorem r_callV (S : CallFix p m c cc nL s args Tw own) (hK : va_K D classes (gty K) s) (hE : E s) (hst : Est A E) (hP : va_P D classes (gws K G ad M) H) (hS : va_S A s.heap H locs) {y : MethodName} {bytes : ByteArray} {maxL index n ci N a : Nat} {rt : FieldType} {rm : Room} {C : String} {T : u_T} {As : List Value} {fx : Option (Int32 × Mem)} {kk : Int32 → Mem → Option β}
    (ha : gcl G a = ci) (hci : ci < 20) (hcl : classes[ci]? = some (C, T, N)) (cw : CallW R s args own C index y bytes maxL (some rt) (ws_of y bytes maxL (some rt)) rm 0 0 n) (hn : As.length = n) (hsz : ls.size = nL) (hst0 : st0 = As.reverse ++ .ref (ad a) :: rest) (hW : (rest.map fun v => v.category).sum ≤ 8) (hdg : decode cc pc = .ok (.invokevirtual index, 3)) (hfit : cells ≤ R.cells ∧ slots ≤ R.slots)
    (hC : ∀ r M1, fx = some (r, M1) → Ct l E D K G ad A y (ws_of y bytes maxL (some rt)) rm rt (.ref (ad a) :: As) M r M1) (hf : bd fx kk = some z)
    (w : ∀ r M H locs, va_P D classes (gws K G ad M) H → va_S A s.heap H locs → narrow rt (.int r) = .int r → kk r M = some z → W p l e R s m args below meth c H locs cells slots Q (F0 m (pc + 3) ls (.int r :: rest))) : W p l e R s m args below meth c H locs cells slots Q (F0 m pc ls st0) := by
  obtain ⟨r, M1, e1, hf⟩ := bd_s hf
  have hl := gcl_lt ha (by omega)
  refine va_calli (va_runV (As := As) (rest := rest) S (hC r M1 e1) cw ⟨ct_blind hst, va_recv hK hP (ci := ci) (q0 := a) hcl (by rw [gws_at hl, gce_ob ha hci]), fun U hU hW => ⟨rfl, by rw [hU]; exact hP, va_K.moved hW.alike hK, hst.1 s U locs hW (by rw [hU]; exact hS) hE⟩⟩ rfl hn hsz hst0 (lv_room hW) hdg ⟨hfit.1, hfit.2⟩) hS (fun q _ h => h) (fun q h => h) (fun r' u t H1 locs1 ht hvm hw hB hz1 hk1 hS1 => ?_)
  obtain ⟨rfl, hn1⟩ := hw
  exact w r' M1 H1 locs1 (by rw [← ht]; exact hB) hS1 hn1 hf
theorem r_callVv (S : CallFix p m c cc nL s args Tw own) (hK : va_K D classes (gty K) s) (hE : E s) (hst : Est A E) (hP : va_P D classes (gws K G ad M) H) (hS : va_S A s.heap H locs) {y : MethodName} {bytes : ByteArray} {maxL index n ci N a : Nat} {rm : Room} {C : String} {T : u_T} {As : List Value} {fx : Option (Int32 × Mem)} {kk : Int32 → Mem → Option β}
    (ha : gcl G a = ci) (hci : ci < 20) (hcl : classes[ci]? = some (C, T, N)) (cw : CallW R s args own C index y bytes maxL none (ws_of y bytes maxL none) rm 0 0 n) (hn : As.length = n) (hsz : ls.size = nL) (hst0 : st0 = As.reverse ++ .ref (ad a) :: rest) (hW : (rest.map fun v => v.category).sum ≤ 8) (hdg : decode cc pc = .ok (.invokevirtual index, 3)) (hfit : cells ≤ R.cells ∧ slots ≤ R.slots)
    (hC : ∀ r M1, fx = some (r, M1) → Cv l E D K G ad A y (ws_of y bytes maxL none) rm (.ref (ad a) :: As) M M1) (hf : bd fx kk = some z)
    (w : ∀ r M H locs, va_P D classes (gws K G ad M) H → va_S A s.heap H locs → kk r M = some z → W p l e R s m args below meth c H locs cells slots Q (F0 m (pc + 3) ls rest)) : W p l e R s m args below meth c H locs cells slots Q (F0 m pc ls st0) := by
  obtain ⟨r, M1, e1, hf⟩ := bd_s hf
  have hl := gcl_lt ha (by omega)
  refine va_callv (va_runV (As := As) (rest := rest) S (hC r M1 e1) cw ⟨ct_blind hst, va_recv hK hP (ci := ci) (q0 := a) hcl (by rw [gws_at hl, gce_ob ha hci]), fun U hU hW => ⟨rfl, by rw [hU]; exact hP, va_K.moved hW.alike hK, hst.1 s U locs hW (by rw [hU]; exact hS) hE⟩⟩ rfl hn hsz hst0 (lv_room hW) hdg ⟨hfit.1, hfit.2⟩) hS (fun q _ h => h) (fun q h => h) (fun u t H1 locs1 ht hvm hw hB hz1 hk1 hS1 => ?_)
  exact w r M1 H1 locs1 (by rw [← ht]; exact hB) hS1 hf
theorem r_callS (S : CallFix p m c cc nL s args Tw own) (hK : va_K D classes (gty K) s) (hE : E s) (hst : Est A E) (hP : va_P D classes (gws K G ad M) H) (hS : va_S A s.heap H locs) {y : MethodName} {bytes : ByteArray} {maxL index n : Nat} {rt : FieldType} {rm : Room} {As : List Value} {fx : Option (Int32 × Mem)} {kk : Int32 → Mem → Option β}
    (cw : CallB R s args own index y bytes maxL (some rt) (ws_of y bytes maxL (some rt)) rm 0 0 n ∧ (Cond.static y).before args s = true) (hn : As.length = n) (hsz : ls.size = nL) (hst0 : st0 = As.reverse ++ rest) (hW : (rest.map fun v => v.category).sum ≤ 8) (hdg : decode cc pc = .ok (.invokestatic index, 3)) (hfit : cells ≤ R.cells ∧ slots ≤ R.slots)
    (hC : ∀ r M1, fx = some (r, M1) → Ct l E D K G ad A y (ws_of y bytes maxL (some rt)) rm rt As M r M1) (hf : bd fx kk = some z)
    (w : ∀ r M H locs, va_P D classes (gws K G ad M) H → va_S A s.heap H locs → narrow rt (.int r) = .int r → kk r M = some z → W p l e R s m args below meth c H locs cells slots Q (F0 m (pc + 3) ls (.int r :: rest))) : W p l e R s m args below meth c H locs cells slots Q (F0 m pc ls st0) := by
  obtain ⟨r, M1, e1, hf⟩ := bd_s hf
  refine va_calli (va_runS (As := As) (rest := rest) S (hC r M1 e1) cw ⟨ct_blind hst, fun U hU hW => ⟨rfl, by rw [hU]; exact hP, va_K.moved hW.alike hK, hst.1 s U locs hW (by rw [hU]; exact hS) hE⟩⟩ rfl hn hsz hst0 (lv_room hW) hdg ⟨hfit.1, hfit.2⟩) hS (fun q _ h => h) (fun q h => h) (fun r' u t H1 locs1 ht hvm hw hB hz1 hk1 hS1 => ?_)
  obtain ⟨rfl, hn1⟩ := hw
  exact w r' M1 H1 locs1 (by rw [← ht]; exact hB) hS1 hn1 hf
theorem r_callSN (S : CallFix p m c cc nL s args Tw own) (hK : va_K D classes (gty K) s) (hE : E s) (hst : Est A E) (hP : va_P D classes (gws K G ad M) H) (hS : va_S A s.heap H locs) {y : MethodName} {bytes : ByteArray} {maxL index n : Nat} {rt : FieldType} {rm : Room} {As : List Value} {host : String} {fx : Option (Int32 × Mem)} {kk : Int32 → Mem → Option β}
    (cw : va_CN R s args own index y host bytes maxL (some rt) (ws_of y bytes maxL (some rt)) rm 0 0 n ∧ (Cond.static y).before args s = true ∧ True) (hn : As.length = n) (hsz : ls.size = nL) (hst0 : st0 = As.reverse ++ rest) (hW : (rest.map fun v => v.category).sum ≤ 8) (hdg : decode cc pc = .ok (.invokestatic index, 3)) (hfit : cells ≤ R.cells ∧ slots ≤ R.slots)
    (hC : ∀ r M1, fx = some (r, M1) → Ct l E D K G ad A y (ws_of y bytes maxL (some rt)) rm rt As M r M1) (hf : bd fx kk = some z)
    (w : ∀ r M H locs, va_P D classes (gws K G ad M) H → va_S A s.heap H locs → narrow rt (.int r) = .int r → kk r M = some z → W p l e R s m args below meth c H locs cells slots Q (F0 m (pc + 3) ls (.int r :: rest))) : W p l e R s m args below meth c H locs cells slots Q (F0 m pc ls st0) := by
  obtain ⟨r, M1, e1, hf⟩ := bd_s hf
  refine va_calli (va_runSN (As := As) (rest := rest) S (hC r M1 e1) cw ⟨ct_blind hst, fun U hU hW => ⟨rfl, by rw [hU]; exact hP, va_K.moved hW.alike hK, hst.1 s U locs hW (by rw [hU]; exact hS) hE⟩⟩ rfl hn hsz hst0 (lv_room hW) hdg ⟨hfit.1, hfit.2⟩) hS (fun q _ h => h) (fun q h => h) (fun r' u t H1 locs1 ht hvm hw hB hz1 hk1 hS1 => ?_)
  obtain ⟨rfl, hn1⟩ := hw
  exact w r' M1 H1 locs1 (by rw [← ht]; exact hB) hS1 hn1 hf
theorem r_max (S : CallFix p m c cc nL s args Tw own) {index : Nat} (hlink : Cond.methodLink own index Lib.Math.max.name ∈ Tw) (hstat : Cond.static Lib.Math.max.name ∈ Tw) (hini : Cond.initialized "java/lang/Math" ∈ Tw) (hcode : Cond.code Lib.Math.max.name Lib.Math.max.code 2 (some .int) ∈ Tw) (hsz : ls.size = nL) (hfr : 1 ≤ R.frames) (hlo : (rest.map fun v => v.category).sum + 13 ≤ R.locals) (hfit : cells ≤ R.cells ∧ slots ≤ R.slots) {x y : Int32} (hdg : decode cc pc = .ok (.invokestatic index, 3))
    (kk : W p l e R s m args below meth c H locs cells slots Q (F0 m (pc + 3) ls (.int (if x < y then y else x) :: rest))) : W p l e R s m args below meth c H locs cells slots Q (F0 m pc ls (.int y :: .int x :: rest)) :=
  va_mmax S.1 S.2.1 (S.2.2.1.trans hsz.symm) S.2.2.2.1 (S.2.2.2.2 _ hlink) (S.2.2.2.2 _ hstat) (S.2.2.2.2 _ hini) (S.2.2.2.2 _ hcode) hfr hlo hfit.1 hfit.2 hdg kk
theorem r_min (S : CallFix p m c cc nL s args Tw own) {index : Nat} (hlink : Cond.methodLink own index Lib.Math.min.name ∈ Tw) (hstat : Cond.static Lib.Math.min.name ∈ Tw) (hini : Cond.initialized "java/lang/Math" ∈ Tw) (hcode : Cond.code Lib.Math.min.name Lib.Math.min.code 2 (some .int) ∈ Tw) (hsz : ls.size = nL) (hfr : 1 ≤ R.frames) (hlo : (rest.map fun v => v.category).sum + 13 ≤ R.locals) (hfit : cells ≤ R.cells ∧ slots ≤ R.slots) {x y : Int32} (hdg : decode cc pc = .ok (.invokestatic index, 3))
    (kk : W p l e R s m args below meth c H locs cells slots Q (F0 m (pc + 3) ls (.int (if y < x then y else x) :: rest))) : W p l e R s m args below meth c H locs cells slots Q (F0 m pc ls (.int y :: .int x :: rest)) :=
  va_mmin S.1 S.2.1 (S.2.2.1.trans hsz.symm) S.2.2.2.1 (S.2.2.2.2 _ hlink) (S.2.2.2.2 _ hstat) (S.2.2.2.2 _ hini) (S.2.2.2.2 _ hcode) hfr hlo hfit.1 hfit.2 hdg kk
theorem r_abs (S : CallFix p m c cc nL s args Tw own) {index : Nat} (hlink : Cond.methodLink own index Lib.Math.abs.name ∈ Tw) (hstat : Cond.static Lib.Math.abs.name ∈ Tw) (hini : Cond.initialized "java/lang/Math" ∈ Tw) (hcode : Cond.code Lib.Math.abs.name Lib.Math.abs.code 1 (some .int) ∈ Tw) (hsz : ls.size = nL) (hfr : 1 ≤ R.frames) (hlo : (rest.map fun v => v.category).sum + 13 ≤ R.locals) (hfit : cells ≤ R.cells ∧ slots ≤ R.slots) {x : Int32} (hdg : decode cc pc = .ok (.invokestatic index, 3))
    (kk : W p l e R s m args below meth c H locs cells slots Q (F0 m (pc + 3) ls (.int (if 0 ≤ x then x else 0 - x) :: rest))) : W p l e R s m args below meth c H locs cells slots Q (F0 m pc ls (.int x :: rest)) :=
  va_mabs S.1 S.2.1 (S.2.2.1.trans hsz.symm) S.2.2.2.1 (S.2.2.2.2 _ hlink) (S.2.2.2.2 _ hstat) (S.2.2.2.2 _ hini) (S.2.2.2.2 _ hcode) hfr hlo hfit.1 hfit.2 hdg kk
theorem r_minl (S : CallFix p m c cc nL s args Tw own) {index : Nat} (hlink : Cond.methodLink own index Lib.MathLoose.min_long.x ∈ Tw) (hstat : Cond.static Lib.MathLoose.min_long.x ∈ Tw) (hini : Cond.initialized "java/lang/Math" ∈ Tw) (hcode : Cond.code Lib.MathLoose.min_long.x Lib.MathLoose.min_long.code 4 (some .long) ∈ Tw) (hsz : ls.size = nL) (hfr : 1 ≤ R.frames) (hlo : (rest.map fun v => v.category).sum + 15 ≤ R.locals) (hfit : cells ≤ R.cells ∧ slots ≤ R.slots) {x y : Int64} (hdg : decode cc pc = .ok (.invokestatic index, 3))
    (kk : W p l e R s m args below meth c H locs cells slots Q (F0 m (pc + 3) ls (.long (if y < x then y else x) :: rest))) : W p l e R s m args below meth c H locs cells slots Q (F0 m pc ls (.long y :: .long x :: rest)) :=
  va_mmin_long S.1 S.2.1 (S.2.2.1.trans hsz.symm) S.2.2.2.1 (S.2.2.2.2 _ hlink) (S.2.2.2.2 _ hstat) (S.2.2.2.2 _ hini) (S.2.2.2.2 _ hcode) hfr hlo hfit.1 hfit.2 hdg kk
theorem Ct.ofW {y : MethodName} {maxL : Nat} {rt : FieldType} {rm : Room} {av : List Value} {r : Int32} {M' : Mem} (hy : plainName y.cls = true) (hlen : (lg_sl av).length ≤ maxL)
    (body : ∀ (p : Program) (e : Env) (s : State) (m : MethodId) (args : Array Value) (below : List Frame) (meth : Method) (c : Code) (Q : State → Prop) (H : Heap) (locs : List Loc) (ls : Array Slot), CallFix p m c cc maxL s args Tw y.cls → va_K D classes (gty K) s → E s → va_P D classes (gws K G ad M) H → va_S A s.heap H locs → lv_has ls maxL (lv_args 0 av) →
      (∀ (pc : Nat) (ls : Array Slot) (v : Int32) (M1 : Mem) (H : Heap) (locs : List Loc), decode cc pc = .ok (.ireturn, 1) → va_P D classes (gws K G ad M1) H → va_S A s.heap H locs → narrow rt (.int v) = .int v → some (v, M1) = some (r, M') → W p l e rm s m args below meth c H locs 0 0 Q (F0 m pc ls [.int v])) →
      W p l e rm s m args below meth c H locs 0 0 Q (F0 m 0 ls [])) : Ct l E D K G ad A y (ws_of y cc maxL (some rt)) rm rt av M r M' := by
  refine Met.ofW (cc := cc) (maxL := maxL) (ret := some rt) hy rfl ?_
  intro p e s m args below meth c s₁ B hml hv
  obtain ⟨rfl, hP, hK, hE⟩ := hv
  have hx := B.exec
  have hb := B.bytes
  have hr := B.returns
  have hts := atoms_spec (ws := ws_of y cc maxL (some rt)) B.pre
  have hown : s.vm.findClass y.cls = some m.cls := findClass_of_methodNamed B.named
  have hlocks := B.notSynchronized
  have hl := lv_entry av (n := maxL) hlen
  rw [lg_entry_eq]
  refine body p e s m av.toArray below meth c _ s.heap [] _ ⟨hx, hb, hml, hown, fun w hw => hts w (List.mem_cons_of_mem _ hw)⟩ hK hE hP va_S.rf hl ?_
  intro pc ls v M1 H locs hdg hP hS hn he
  obtain ⟨e1, e2⟩ := Prod.mk.inj (Option.some.inj he)
  exact W.zret (v := v) (ty := rt) hx hb hr hn (fun t ht hW => ⟨⟨v, (), rfl, ⟨e1, by rw [← e1]; exact hn⟩, show va_P D classes (gws K G ad M') t.heap by rw [ht, ← e2]; exact hP⟩, hS.F ht⟩) hS.2.2 hdg hlocks
theorem Cv.ofW {y : MethodName} {maxL : Nat} {rm : Room} {av : List Value} {r : Int32} {M' : Mem} (hy : plainName y.cls = true) (hlen : (lg_sl av).length ≤ maxL)
    (body : ∀ (p : Program) (e : Env) (s : State) (m : MethodId) (args : Array Value) (below : List Frame) (meth : Method) (c : Code) (Q : State → Prop) (H : Heap) (locs : List Loc) (ls : Array Slot), CallFix p m c cc maxL s args Tw y.cls → va_K D classes (gty K) s → E s → va_P D classes (gws K G ad M) H → va_S A s.heap H locs → lv_has ls maxL (lv_args 0 av) →
      (∀ (pc : Nat) (ls : Array Slot) (v : Int32) (M1 : Mem) (H : Heap) (locs : List Loc), decode cc pc = .ok (.return_, 1) → va_P D classes (gws K G ad M1) H → va_S A s.heap H locs → some (v, M1) = some (r, M') → W p l e rm s m args below meth c H locs 0 0 Q (F0 m pc ls [])) →
      W p l e rm s m args below meth c H locs 0 0 Q (F0 m 0 ls [])) : Cv l E D K G ad A y (ws_of y cc maxL none) rm av M M' := by
  refine Met.ofW (cc := cc) (maxL := maxL) (ret := none) hy rfl ?_
  intro p e s m args below meth c s₁ B hml hv
  obtain ⟨rfl, hP, hK, hE⟩ := hv
  have hx := B.exec
  have hb := B.bytes
  have hr := B.returns
  have hts := atoms_spec (ws := ws_of y cc maxL none) B.pre
  have hown : s.vm.findClass y.cls = some m.cls := findClass_of_methodNamed B.named
  have hlocks := B.notSynchronized
  have hl := lv_entry av (n := maxL) hlen
  rw [lg_entry_eq]
  refine body p e s m av.toArray below meth c _ s.heap [] _ ⟨hx, hb, hml, hown, fun w hw => hts w (List.mem_cons_of_mem _ hw)⟩ hK hE hP va_S.rf hl ?_
  intro pc ls v M1 H locs hdg hP hS he
  obtain ⟨e1, e2⟩ := Prod.mk.inj (Option.some.inj he)
  exact W.vret hx hb hr (fun t ht hW => ⟨⟨(), rfl, trivial, show va_P D classes (gws K G ad M') t.heap by rw [ht, ← e2]; exact hP⟩, hS.F ht⟩) hS.2.2 hdg hlocks
theorem cw_V {y : MethodName} {bytes : ByteArray} {maxL index : Nat} {ret : Option FieldType} {rm : Room} (n : Nat) (ht : ∀ w ∈ Tw, w.before args s = true) (h1 : Cond.methodLink own index y ∈ Tw) (h2 : Cond.instanceMethod y ∈ Tw) (h3 : Cond.selects y.cls y y ∈ Tw) (h4 : Cond.initialized y.cls ∈ Tw) (h5 : Cond.code y bytes maxL ret ∈ Tw)
    (hd : y.cls ≠ "java/lang/invoke/MethodHandle" ∧ y.cls ≠ "java/lang/invoke/VarHandle" ∧ (parseMethodDescriptor y.desc).map (fun d => d.parameters.length) = some n) (hrc : rm.cells = 0) (hrs : rm.slots = 0) (hR : rm.frames + 1 ≤ R.frames ∧ 8 + (maxL + 11) + rm.locals ≤ R.locals) : CallW R s args own y.cls index y bytes maxL ret (ws_of y bytes maxL ret) rm 0 0 n :=
  ⟨callB_of n ht (tw_good h5) rfl hrc hrs (ht _ h4) (ht _ h1) hd hR, ht _ h2, ht _ h3⟩
theorem cw_S {y : MethodName} {bytes : ByteArray} {maxL index : Nat} {ret : Option FieldType} {rm : Room} (n : Nat) (ht : ∀ w ∈ Tw, w.before args s = true) (h1 : Cond.methodLink own index y ∈ Tw) (h2 : Cond.static y ∈ Tw) (h4 : Cond.initialized y.cls ∈ Tw) (h5 : Cond.code y bytes maxL ret ∈ Tw)
    (hd : y.cls ≠ "java/lang/invoke/MethodHandle" ∧ y.cls ≠ "java/lang/invoke/VarHandle" ∧ (parseMethodDescriptor y.desc).map (fun d => d.parameters.length) = some n) (hrc : rm.cells = 0) (hrs : rm.slots = 0) (hR : rm.frames + 1 ≤ R.frames ∧ 8 + (maxL + 11) + rm.locals ≤ R.locals) : CallB R s args own index y bytes maxL ret (ws_of y bytes maxL ret) rm 0 0 n ∧ (Cond.static y).before args s = true :=
  ⟨callB_of n ht (tw_good h5) rfl hrc hrs (ht _ h4) (ht _ h1) hd hR, ht _ h2⟩
theorem cw_SN {y : MethodName} {bytes : ByteArray} {maxL index : Nat} {ret : Option FieldType} {rm : Room} {host : String} (n : Nat) (ht : ∀ w ∈ Tw, w.before args s = true) (h1 : va_Nw (.methodLinkNest own index y host) s) (h2 : Cond.static y ∈ Tw) (h4 : Cond.initialized y.cls ∈ Tw) (h5 : Cond.code y bytes maxL ret ∈ Tw)
    (hd : y.cls ≠ "java/lang/invoke/MethodHandle" ∧ y.cls ≠ "java/lang/invoke/VarHandle" ∧ (parseMethodDescriptor y.desc).map (fun d => d.parameters.length) = some n) (hrc : rm.cells = 0) (hrs : rm.slots = 0) (hR : rm.frames + 1 ≤ R.frames ∧ 8 + (maxL + 11) + rm.locals ≤ R.locals) : va_CN R s args own index y host bytes maxL ret (ws_of y bytes maxL ret) rm 0 0 n ∧ (Cond.static y).before args s = true ∧ True :=
  ⟨va_cnB n ht (tw_good h5) rfl hrc hrs h1 (ht _ h4) hd hR, ht _ h2, trivial⟩
end
