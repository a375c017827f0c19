section
variable {p : Program} {l : Launch} {e : Env} {R : Room} {s : State} {m : MethodId} {args : Array Value} {below : List Frame} {meth : Method} {c : Code} {H : Heap} {locs : List Loc} {cells slots : Nat} {Q : State → Prop} {cc : ByteArray} {pc : Nat} {ls : Array Slot} {rest : List Value} {nL : Nat} {D : va_G} {K : Ks} {ad : Nat → Nat} {A : Nat → Prop} {M : Mem} {β : Type} {z : β}
theorem gf_X0_30 (S : CallFix p m c cc nL s args Tw RX0) (hK : va_K D classes (gty K) s) (hP : va_P D classes (gws K G1 ad M) H) {a : Nat} {kk : Int32 → Option β} (ha : gcl G1 a = 0) (hdg : decode cc pc = .ok (.getfield 30, 3)) (hf : vv (M a 0) kk = some z) (w : ∀ x, kk x = some z → W p l e R s m args below meth c H locs cells slots Q (F0 m (pc + 3) ls (.int x :: rest))) : W p l e R s m args below meth c H locs cells slots Q (F0 m pc ls (.ref (ad a) :: rest)) := r_geti S hK hP (T := TX0) inX0 rfl (by decide) (by decide) ha (sf_X0_0 ha) k_102 hdg hf w
end
def f_X0_hasTable (o : Nat) (p1 : Int32) (M : Mem) : Option (Int32 × Mem) :=
  if p1 < 0 then
    some (0, M)
  else
    vv (M o 0) fun x1 =>
    if p1 < x1 then
      some (1, M)
    else
      some (0, M)
def rm_X0_hasTable : Room := { frames := 0, cells := 0, slots := 0, locals := 0 }
set_option maxHeartbeats 4000000 in
set_option maxRecDepth 100000 in
theorem c_X0_hasTable {l : Launch} {D : va_G} {K : Ks} {ad : Nat → Nat} {A : Nat → Prop} {tC tA tP : Nat} {kK kV : Nat → Nat} (hG : Gok G1 ad A) {o : Nat} {p1 : Int32} (h0 : gcl G1 o = 0) {M : Mem} {r : Int32} {M' : Mem} (hf : f_X0_hasTable o p1 M = some (r, M')) : Ct l (E1 A tC tA tP kK kV) D K G1 ad A yX0_hasTable (ws_of yX0_hasTable cX0_hasTable 2 (some .boolean)) rm_X0_hasTable .boolean [.ref (ad o), .int p1] M r M' := by
  have hst : Est A (E1 A tC tA tP kK kV) := est1
  refine Ct.ofW (by decide) (Nat.le_of_ble_eq_true rfl) ?_
  intro p e s m args below meth c Q H locs ls S hK hE hP hS hl hret
  have hx := S.1
  have hb := S.2.1
  have hown := S.2.2.2.1
  have ht := S.2.2.2.2
  have hl : lv_has ls 2 [(0, .ref (ad o)), (1, .int p1)] := hl
  unfold f_X0_hasTable at hf
  refine lv_iload_n hx hb dX0_hasTable_0 rfl (lv_at hl 1 rfl) ?_
  refine r_if_lt (tgt := 16) S dX0_hasTable_1 (by decide) hf (fun hf => ?_) (fun hf => ?_)
  · refine lv_iconst (v := 0) hx hb dX0_hasTable_16 (by decide) ?_
    exact hret _ _ _ _ _ _ dX0_hasTable_17 hP hS rfl hf
  · refine lv_iload_n hx hb dX0_hasTable_4 rfl (lv_at hl 1 rfl) ?_
    refine lv_aload_n hx hb dX0_hasTable_5 rfl (lv_at hl 0 rfl) ?_
    refine gf_X0_30 S hK hP h0 dX0_hasTable_6 hf (fun x1 hf => ?_)
    refine r_icmp_ge (tgt := 16) S dX0_hasTable_9 (by decide) hf (fun hf => ?_) (fun hf => ?_)
    · refine lv_iconst (v := 0) hx hb dX0_hasTable_16 (by decide) ?_
      exact hret _ _ _ _ _ _ dX0_hasTable_17 hP hS rfl hf
    · refine lv_iconst (v := 1) hx hb dX0_hasTable_12 (by decide) ?_
      refine lv_goto (tgt := 17) hx hb dX0_hasTable_13 (by decide) ?_
      exact hret _ _ _ _ _ _ dX0_hasTable_17 hP hS rfl hf
section
variable {p : Program} {l : Launch} {e : Env} {R : Room} {s : State} {m : MethodId} {args : Array Value} {below : List Frame} {meth : Method} {c : Code} {H : Heap} {locs : List Loc} {cells slots : Nat} {Q : State → Prop} {cc : ByteArray} {pc : Nat} {ls : Array Slot} {rest : List Value} {nL : Nat} {D : va_G} {K : Ks} {ad : Nat → Nat} {A : Nat → Prop} {M : Mem} {β : Type} {z : β}
theorem gf_X0_40 (S : CallFix p m c cc nL s args Tw RX0) (hK : va_K D classes (gty K) s) (hP : va_P D classes (gws K G1 ad M) H) {a : Nat} {kk : Int32 → Option β} (ha : gcl G1 a = 0) (hdg : decode cc pc = .ok (.getfield 40, 3)) (hf : vv (M a 2) kk = some z) (w : ∀ x, kk x = some z → W p l e R s m args below meth c H locs cells slots Q (F0 m (pc + 3) ls (.int x :: rest))) : W p l e R s m args below meth c H locs cells slots Q (F0 m pc ls (.ref (ad a) :: rest)) := r_geti S hK hP (T := TX0) inX0 rfl (by decide) (by decide) ha (sf_X0_2 ha) k_105 hdg hf w
end
def f_X0_has (o : Nat) (p1 : Int32) (M : Mem) : Option (Int32 × Mem) :=
  if p1 < 0 then
    some (0, M)
  else
    vv (M o 2) fun x1 =>
    if p1 < x1 then
      some (1, M)
    else
      some (0, M)
def rm_X0_has : Room := { frames := 0, cells := 0, slots := 0, locals := 0 }
set_option maxHeartbeats 4000000 in
set_option maxRecDepth 100000 in
theorem c_X0_has {l : Launch} {D : va_G} {K : Ks} {ad : Nat → Nat} {A : Nat → Prop} {tC tA tP : Nat} {kK kV : Nat → Nat} (hG : Gok G1 ad A) {o : Nat} {p1 : Int32} (h0 : gcl G1 o = 0) {M : Mem} {r : Int32} {M' : Mem} (hf : f_X0_has o p1 M = some (r, M')) : Ct l (E1 A tC tA tP kK kV) D K G1 ad A yX0_has (ws_of yX0_has cX0_has 2 (some .boolean)) rm_X0_has .boolean [.ref (ad o), .int p1] M r M' := by
  have hst : Est A (E1 A tC tA tP kK kV) := est1
  refine Ct.ofW (by decide) (Nat.le_of_ble_eq_true rfl) ?_
  intro p e s m args below meth c Q H locs ls S hK hE hP hS hl hret
  have hx := S.1
  have hb := S.2.1
  have hown := S.2.2.2.1
  have ht := S.2.2.2.2
  have hl : lv_has ls 2 [(0, .ref (ad o)), (1, .int p1)] := hl
  unfold f_X0_has at hf
  refine lv_iload_n hx hb dX0_has_0 rfl (lv_at hl 1 rfl) ?_
  refine r_if_lt (tgt := 16) S dX0_has_1 (by decide) hf (fun hf => ?_) (fun hf => ?_)
  · refine lv_iconst (v := 0) hx hb dX0_has_16 (by decide) ?_
    exact hret _ _ _ _ _ _ dX0_has_17 hP hS rfl hf
  · refine lv_iload_n hx hb dX0_has_4 rfl (lv_at hl 1 rfl) ?_
    refine lv_aload_n hx hb dX0_has_5 rfl (lv_at hl 0 rfl) ?_
    refine gf_X0_40 S hK hP h0 dX0_has_6 hf (fun x1 hf => ?_)
    refine r_icmp_ge (tgt := 16) S dX0_has_9 (by decide) hf (fun hf => ?_) (fun hf => ?_)
    · refine lv_iconst (v := 0) hx hb dX0_has_16 (by decide) ?_
      exact hret _ _ _ _ _ _ dX0_has_17 hP hS rfl hf
    · refine lv_iconst (v := 1) hx hb dX0_has_12 (by decide) ?_
      refine lv_goto (tgt := 17) hx hb dX0_has_13 (by decide) ?_
      exact hret _ _ _ _ _ _ dX0_has_17 hP hS rfl hf
section
variable {p : Program} {l : Launch} {e : Env} {R : Room} {s : State} {m : MethodId} {args : Array Value} {below : List Frame} {meth : Method} {c : Code} {H : Heap} {locs : List Loc} {cells slots : Nat} {Q : State → Prop} {cc : ByteArray} {pc : Nat} {ls : Array Slot} {rest : List Value} {nL : Nat} {D : va_G} {K : Ks} {ad : Nat → Nat} {A : Nat → Prop} {M : Mem} {β : Type} {z : β}
theorem gf_X0_9 (S : CallFix p m c cc nL s args Tw RX0) (hK : va_K D classes (gty K) s) (hP : va_P D classes (gws K G1 ad M) H) {a : Nat} {kk : Nat → Option β} (ha : gcl G1 a = 0) (hdg : decode cc pc = .ok (.getfield 9, 3)) (hf : vv (grf G1 a 1) kk = some z) (w : ∀ b, gcl G1 b = 20 ∧ gsz G1 b = 12 → kk b = some z → W p l e R s m args below meth c H locs cells slots Q (F0 m (pc + 3) ls (.ref (ad b) :: rest))) : W p l e R s m args below meth c H locs cells slots Q (F0 m pc ls (.ref (ad a) :: rest)) := r_getr S hK hP (T := TX0) inX0 rfl (by decide) (by decide) ha (sf_X0_1 ha).1 k_104 hdg hf (fun b e => w b (by rw [e]; exact (sf_X0_1 ha).2))
end
section
variable {p : Program} {l : Launch} {e : Env} {R : Room} {s : State} {m : MethodId} {args : Array Value} {below : List Frame} {meth : Method} {c : Code} {H : Heap} {locs : List Loc} {cells slots : Nat} {Q : State → Prop} {cc : ByteArray} {pc : Nat} {ls : Array Slot} {rest : List Value} {nL : Nat} {D : va_G} {K : Ks} {ad : Nat → Nat} {A : Nat → Prop} {M : Mem} {β : Type} {z : β}
theorem pf_X0_30 (S : CallFix p m c cc nL s args Tw RX0) (hK : va_K D classes (gty K) s) (hG : Gok G1 ad A) (hP : va_P D classes (gws K G1 ad M) H) (hS : va_S A s.heap H locs) {a : Nat} {v : Int32} {kk : Mem → Option β} (ha : gcl G1 a = 0) (hdg : decode cc pc = .ok (.putfield 30, 3)) (hf : mm (up M a 0 v) kk = some z) (w : ∀ M H locs, va_P D classes (gws K G1 ad M) H → va_S A s.heap H locs → kk M = some z → W p l e R s m args below meth c H locs cells slots Q (F0 m (pc + 3) ls rest)) : W p l e R s m args below meth c H locs cells slots Q (F0 m pc ls (.int v :: .ref (ad a) :: rest)) := r_putt S hK hG hP hS (T := TX0) inX0 rfl (by decide) tyX0 tyX0_ok nmX0 (by decide) rfl rfl rfl ha (sf_X0_0 ha) k_102 hdg hf w
end
def f_X0_addTable (o : Nat) (p1 : Int32) (M : Mem) : Option (Int32 × Mem) :=
  vv (M o 0) fun x1 =>
  jn (fun (M : Mem) =>
    vv (M o 0) fun x3 =>
    if x3 < 12 then
      vv (grf G1 o 1) fun x4 =>
      vv (M o 0) fun x5 =>
      st M x4 x5 12 p1 fun M =>
      vv (M o 0) fun x6 =>
      mm (up M o 0 (x6 + 1)) fun M =>
      vv (M o 0) fun x7 =>
      some ((x7 - 1), M)
    else
      some ((-1000000003), M)
  ) fun k2 =>
  if 0 < x1 then
    vv (grf G1 o 1) fun x8 =>
    vv (M o 0) fun x9 =>
    ld M x8 (x9 - 1) 12 fun x10 =>
    if p1 < x10 then
      some ((-1000000002), M)
    else
      k2 M
  else
    k2 M
def rm_X0_addTable : Room := { frames := 0, cells := 0, slots := 0, locals := 0 }
set_option maxHeartbeats 4000000 in
set_option maxRecDepth 100000 in
theorem c_X0_addTable {l : Launch} {D : va_G} {K : Ks} {ad : Nat → Nat} {A : Nat → Prop} {tC tA tP : Nat} {kK kV : Nat → Nat} (hG : Gok G1 ad A) {o : Nat} {p1 : Int32} (h0 : gcl G1 o = 0) {M : Mem} {r : Int32} {M' : Mem} (hf : f_X0_addTable o p1 M = some (r, M')) : Ct l (E1 A tC tA tP kK kV) D K G1 ad A yX0_addTable (ws_of yX0_addTable cX0_addTable 2 (some .int)) rm_X0_addTable .int [.ref (ad o), .int p1] M r M' := by
  have hst : Est A (E1 A tC tA tP kK kV) := est1
  refine Ct.ofW (by decide) (Nat.le_of_ble_eq_true rfl) ?_
  intro p e s m args below meth c Q H locs ls S hK hE hP hS hl hret
  have hx := S.1
  have hb := S.2.1
  have hown := S.2.2.2.1
  have ht := S.2.2.2.2
  have hl : lv_has ls 2 [(0, .ref (ad o)), (1, .int p1)] := hl
  unfold f_X0_addTable at hf
  refine lv_aload_n hx hb dX0_addTable_0 rfl (lv_at hl 0 rfl) ?_
  refine gf_X0_30 S hK hP h0 dX0_addTable_1 hf (fun x1 hf => ?_)
  obtain ⟨k2, hk2, hf⟩ := jn_w hf
  have J2 : ∀ (M : Mem) (H : Heap) (locs : List Loc) (ls : Array Slot), lv_has ls 2 [(0, .ref (ad o)), (1, .int p1)] → va_P D classes (gws K G1 ad M) H → va_S A s.heap H locs → k2 M = some (r, M') → W p l e rm_X0_addTable s m args below meth c H locs 0 0 Q (F0 m 25 ls []) := by
    intro M H locs ls hl hP hS hf
    rw [hk2] at hf
    refine lv_aload_n hx hb dX0_addTable_25 rfl (lv_at hl 0 rfl) ?_
    refine gf_X0_30 S hK hP h0 dX0_addTable_26 hf (fun x3 hf => ?_)
    refine lv_bipush (v := 12) hx hb dX0_addTable_29 (by decide) ?_
    refine r_icmp_lt (tgt := 37) S dX0_addTable_31 (by decide) hf (fun hf => ?_) (fun hf => ?_)
    · refine lv_aload_n hx hb dX0_addTable_37 rfl (lv_at hl 0 rfl) ?_
      refine gf_X0_9 S hK hP h0 dX0_addTable_38 hf (fun x4 hx4 hf => ?_)
      refine lv_aload_n hx hb dX0_addTable_41 rfl (lv_at hl 0 rfl) ?_
      refine gf_X0_30 S hK hP h0 dX0_addTable_42 hf (fun x5 hf => ?_)
      refine lv_iload_n hx hb dX0_addTable_45 rfl (lv_at hl 1 rfl) ?_
      refine r_iast S hK hG hP hS hx4 dX0_addTable_46 hf (fun M H locs hP hS hf => ?_)
      refine lv_aload_n hx hb dX0_addTable_47 rfl (lv_at hl 0 rfl) ?_
      refine lv_dup hx hb dX0_addTable_48 rfl ?_
      refine gf_X0_30 S hK hP h0 dX0_addTable_49 hf (fun x6 hf => ?_)
      refine lv_iconst (v := 1) hx hb dX0_addTable_52 (by decide) ?_
      refine lv_iadd hx hb dX0_addTable_53 ?_
      refine pf_X0_30 S hK hG hP hS h0 dX0_addTable_54 hf (fun M H locs hP hS hf => ?_)
      refine lv_aload_n hx hb dX0_addTable_57 rfl (lv_at hl 0 rfl) ?_
      refine gf_X0_30 S hK hP h0 dX0_addTable_58 hf (fun x7 hf => ?_)
      refine lv_iconst (v := 1) hx hb dX0_addTable_61 (by decide) ?_
      refine lv_isub hx hb dX0_addTable_62 ?_
      exact hret _ _ _ _ _ _ dX0_addTable_63 hP hS rfl hf
    · refine lv_ldc (v := (-1000000003)) hx hb hown (ht _ k_411) dX0_addTable_34 ?_
      exact hret _ _ _ _ _ _ dX0_addTable_36 hP hS rfl hf
  refine r_if_le (tgt := 25) S dX0_addTable_4 (by decide) hf (fun hf => ?_) (fun hf => ?_)
  · exact J2 M H locs ls (lv_sub hl [0, 1] rfl) hP hS hf
  · refine lv_iload_n hx hb dX0_addTable_7 rfl (lv_at hl 1 rfl) ?_
    refine lv_aload_n hx hb dX0_addTable_8 rfl (lv_at hl 0 rfl) ?_
    refine gf_X0_9 S hK hP h0 dX0_addTable_9 hf (fun x8 hx8 hf => ?_)
    refine lv_aload_n hx hb dX0_addTable_12 rfl (lv_at hl 0 rfl) ?_
    refine gf_X0_30 S hK hP h0 dX0_addTable_13 hf (fun x9 hf => ?_)
    refine lv_iconst (v := 1) hx hb dX0_addTable_16 (by decide) ?_
    refine lv_isub hx hb dX0_addTable_17 ?_
    refine r_iald S hK hP hx8 dX0_addTable_18 hf (fun x10 hf => ?_)
    refine r_icmp_ge (tgt := 25) S dX0_addTable_19 (by decide) hf (fun hf => ?_) (fun hf => ?_)
    · exact J2 M H locs ls (lv_sub hl [0, 1] rfl) hP hS hf
    · refine lv_ldc (v := (-1000000002)) hx hb hown (ht _ k_410) dX0_addTable_22 ?_
      exact hret _ _ _ _ _ _ dX0_addTable_24 hP hS rfl hf
section
variable {p : Program} {l : Launch} {e : Env} {R : Room} {s : State} {m : MethodId} {args : Array Value} {below : List Frame} {meth : Method} {c : Code} {H : Heap} {locs : List Loc} {cells slots : Nat} {Q : State → Prop} {cc : ByteArray} {pc : Nat} {ls : Array Slot} {rest : List Value} {nL : Nat} {D : va_G} {K : Ks} {ad : Nat → Nat} {A : Nat → Prop} {M : Mem} {β : Type} {z : β}
theorem gf_X0_15 (S : CallFix p m c cc nL s args Tw RX0) (hK : va_K D classes (gty K) s) (hP : va_P D classes (gws K G1 ad M) H) {a : Nat} {kk : Nat → Option β} (ha : gcl G1 a = 0) (hdg : decode cc pc = .ok (.getfield 15, 3)) (hf : vv (grf G1 a 3) kk = some z) (w : ∀ b, gcl G1 b = 20 ∧ gsz G1 b = 40 → kk b = some z → W p l e R s m args below meth c H locs cells slots Q (F0 m (pc + 3) ls (.ref (ad b) :: rest))) : W p l e R s m args below meth c H locs cells slots Q (F0 m pc ls (.ref (ad a) :: rest)) := r_getr S hK hP (T := TX0) inX0 rfl (by decide) (by decide) ha (sf_X0_3 ha).1 k_108 hdg hf (fun b e => w b (by rw [e]; exact (sf_X0_3 ha).2))
end
section
variable {p : Program} {l : Launch} {e : Env} {R : Room} {s : State} {m : MethodId} {args : Array Value} {below : List Frame} {meth : Method} {c : Code} {H : Heap} {locs : List Loc} {cells slots : Nat} {Q : State → Prop} {cc : ByteArray} {pc : Nat} {ls : Array Slot} {rest : List Value} {nL : Nat} {D : va_G} {K : Ks} {ad : Nat → Nat} {A : Nat → Prop} {M : Mem} {β : Type} {z : β}
theorem gf_X0_18 (S : CallFix p m c cc nL s args Tw RX0) (hK : va_K D classes (gty K) s) (hP : va_P D classes (gws K G1 ad M) H) {a : Nat} {kk : Nat → Option β} (ha : gcl G1 a = 0) (hdg : decode cc pc = .ok (.getfield 18, 3)) (hf : vv (grf G1 a 4) kk = some z) (w : ∀ b, gcl G1 b = 20 ∧ gsz G1 b = 40 → kk b = some z → W p l e R s m args below meth c H locs cells slots Q (F0 m (pc + 3) ls (.ref (ad b) :: rest))) : W p l e R s m args below meth c H locs cells slots Q (F0 m pc ls (.ref (ad a) :: rest)) := r_getr S hK hP (T := TX0) inX0 rfl (by decide) (by decide) ha (sf_X0_4 ha).1 k_111 hdg hf (fun b e => w b (by rw [e]; exact (sf_X0_4 ha).2))
end
section
variable {p : Program} {l : Launch} {e : Env} {R : Room} {s : State} {m : MethodId} {args : Array Value} {below : List Frame} {meth : Method} {c : Code} {H : Heap} {locs : List Loc} {cells slots : Nat} {Q : State → Prop} {cc : ByteArray} {pc : Nat} {ls : Array Slot} {rest : List Value} {nL : Nat} {D : va_G} {K : Ks} {ad : Nat → Nat} {A : Nat → Prop} {M : Mem} {β : Type} {z : β}
theorem gf_X0_21 (S : CallFix p m c cc nL s args Tw RX0) (hK : va_K D classes (gty K) s) (hP : va_P D classes (gws K G1 ad M) H) {a : Nat} {kk : Nat → Option β} (ha : gcl G1 a = 0) (hdg : decode cc pc = .ok (.getfield 21, 3)) (hf : vv (grf G1 a 5) kk = some z) (w : ∀ b, gcl G1 b = 20 ∧ gsz G1 b = 40 → kk b = some z → W p l e R s m args below meth c H locs cells slots Q (F0 m (pc + 3) ls (.ref (ad b) :: rest))) : W p l e R s m args below meth c H locs cells slots Q (F0 m pc ls (.ref (ad a) :: rest)) := r_getr S hK hP (T := TX0) inX0 rfl (by decide) (by decide) ha (sf_X0_5 ha).1 k_114 hdg hf (fun b e => w b (by rw [e]; exact (sf_X0_5 ha).2))
end
section
variable {p : Program} {l : Launch} {e : Env} {R : Room} {s : State} {m : MethodId} {args : Array Value} {below : List Frame} {meth : Method} {c : Code} {H : Heap} {locs : List Loc} {cells slots : Nat} {Q : State → Prop} {cc : ByteArray} {pc : Nat} {ls : Array Slot} {rest : List Value} {nL : Nat} {D : va_G} {K : Ks} {ad : Nat → Nat} {A : Nat → Prop} {M : Mem} {β : Type} {z : β}
theorem gf_X0_24 (S : CallFix p m c cc nL s args Tw RX0) (hK : va_K D classes (gty K) s) (hP : va_P D classes (gws K G1 ad M) H) {a : Nat} {kk : Nat → Option β} (ha : gcl G1 a = 0) (hdg : decode cc pc = .ok (.getfield 24, 3)) (hf : vv (grf G1 a 6) kk = some z) (w : ∀ b, gcl G1 b = 20 ∧ gsz G1 b = 40 → kk b = some z → W p l e R s m args below meth c H locs cells slots Q (F0 m (pc + 3) ls (.ref (ad b) :: rest))) : W p l e R s m args below meth c H locs cells slots Q (F0 m pc ls (.ref (ad a) :: rest)) := r_getr S hK hP (T := TX0) inX0 rfl (by decide) (by decide) ha (sf_X0_6 ha).1 k_117 hdg hf (fun b e => w b (by rw [e]; exact (sf_X0_6 ha).2))
end
section
variable {p : Program} {l : Launch} {e : Env} {R : Room} {s : State} {m : MethodId} {args : Array Value} {below : List Frame} {meth : Method} {c : Code} {H : Heap} {locs : List Loc} {cells slots : Nat} {Q : State → Prop} {cc : ByteArray} {pc : Nat} {ls : Array Slot} {rest : List Value} {nL : Nat} {D : va_G} {K : Ks} {ad : Nat → Nat} {A : Nat → Prop} {M : Mem} {β : Type} {z : β}
theorem gf_X0_27 (S : CallFix p m c cc nL s args Tw RX0) (hK : va_K D classes (gty K) s) (hP : va_P D classes (gws K G1 ad M) H) {a : Nat} {kk : Nat → Option β} (ha : gcl G1 a = 0) (hdg : decode cc pc = .ok (.getfield 27, 3)) (hf : vv (grf G1 a 7) kk = some z) (w : ∀ b, gcl G1 b = 20 ∧ gsz G1 b = 40 → kk b = some z → W p l e R s m args below meth c H locs cells slots Q (F0 m (pc + 3) ls (.ref (ad b) :: rest))) : W p l e R s m args below meth c H locs cells slots Q (F0 m pc ls (.ref (ad a) :: rest)) := r_getr S hK hP (T := TX0) inX0 rfl (by decide) (by decide) ha (sf_X0_7 ha).1 k_120 hdg hf (fun b e => w b (by rw [e]; exact (sf_X0_7 ha).2))
end
section
variable {p : Program} {l : Launch} {e : Env} {R : Room} {s : State} {m : MethodId} {args : Array Value} {below : List Frame} {meth : Method} {c : Code} {H : Heap} {locs : List Loc} {cells slots : Nat} {Q : State → Prop} {cc : ByteArray} {pc : Nat} {ls : Array Slot} {rest : List Value} {nL : Nat} {D : va_G} {K : Ks} {ad : Nat → Nat} {A : Nat → Prop} {M : Mem} {β : Type} {z : β}
theorem pf_X0_40 (S : CallFix p m c cc nL s args Tw RX0) (hK : va_K D classes (gty K) s) (hG : Gok G1 ad A) (hP : va_P D classes (gws K G1 ad M) H) (hS : va_S A s.heap H locs) {a : Nat} {v : Int32} {kk : Mem → Option β} (ha : gcl G1 a = 0) (hdg : decode cc pc = .ok (.putfield 40, 3)) (hf : mm (up M a 2 v) kk = some z) (w : ∀ M H locs, va_P D classes (gws K G1 ad M) H → va_S A s.heap H locs → kk M = some z → W p l e R s m args below meth c H locs cells slots Q (F0 m (pc + 3) ls rest)) : W p l e R s m args below meth c H locs cells slots Q (F0 m pc ls (.int v :: .ref (ad a) :: rest)) := r_putt S hK hG hP hS (T := TX0) inX0 rfl (by decide) tyX0 tyX0_ok nmX0 (by decide) rfl rfl rfl ha (sf_X0_2 ha) k_105 hdg hf w
end
def f_X0_add (o : Nat) (p1 : Int32) (p2 : Int32) (p3 : Int32) (p4 : Int32) (p5 : Int32) (M : Mem) : Option (Int32 × Mem) :=
  vv (M o 2) fun x1 =>
  if x1 < 40 then
    vv (grf G1 o 3) fun x2 =>
    vv (M o 2) fun x3 =>
    st M x2 x3 40 p1 fun M =>
    vv (grf G1 o 4) fun x4 =>
    vv (M o 2) fun x5 =>
    st M x4 x5 40 p2 fun M =>
    vv (grf G1 o 5) fun x6 =>
    vv (M o 2) fun x7 =>
    st M x6 x7 40 p3 fun M =>
    vv (grf G1 o 6) fun x8 =>
    vv (M o 2) fun x9 =>
    st M x8 x9 40 p4 fun M =>
    vv (grf G1 o 7) fun x10 =>
    vv (M o 2) fun x11 =>
    st M x10 x11 40 p5 fun M =>
    vv (M o 2) fun x12 =>
    mm (up M o 2 (x12 + 1)) fun M =>
    vv (M o 2) fun x13 =>
    some ((x13 - 1), M)
  else
    some ((-1000000003), M)
def rm_X0_add : Room := { frames := 0, cells := 0, slots := 0, locals := 0 }
set_option maxHeartbeats 4000000 in
set_option maxRecDepth 100000 in
theorem c_X0_add {l : Launch} {D : va_G} {K : Ks} {ad : Nat → Nat} {A : Nat → Prop} {tC tA tP : Nat} {kK kV : Nat → Nat} (hG : Gok G1 ad A) {o : Nat} {p1 : Int32} {p2 : Int32} {p3 : Int32} {p4 : Int32} {p5 : Int32} (h0 : gcl G1 o = 0) {M : Mem} {r : Int32} {M' : Mem} (hf : f_X0_add o p1 p2 p3 p4 p5 M = some (r, M')) : Ct l (E1 A tC tA tP kK kV) D K G1 ad A yX0_add (ws_of yX0_add cX0_add 6 (some .int)) rm_X0_add .int [.ref (ad o), .int p1, .int p2, .int p3, .int p4, .int p5] M r M' := by
  have hst : Est A (E1 A tC tA tP kK kV) := est1
  refine Ct.ofW (by decide) (Nat.le_of_ble_eq_true rfl) ?_
  intro p e s m args below meth c Q H locs ls S hK hE hP hS hl hret
  have hx := S.1
  have hb := S.2.1
  have hown := S.2.2.2.1
  have ht := S.2.2.2.2
  have hl : lv_has ls 6 [(0, .ref (ad o)), (1, .int p1), (2, .int p2), (3, .int p3), (4, .int p4), (5, .int p5)] := hl
  unfold f_X0_add at hf
  refine lv_aload_n hx hb dX0_add_0 rfl (lv_at hl 0 rfl) ?_
  refine gf_X0_40 S hK hP h0 dX0_add_1 hf (fun x1 hf => ?_)
  refine lv_bipush (v := 40) hx hb dX0_add_4 (by decide) ?_
  refine r_icmp_lt (tgt := 12) S dX0_add_6 (by decide) hf (fun hf => ?_) (fun hf => ?_)
  · refine lv_aload_n hx hb dX0_add_12 rfl (lv_at hl 0 rfl) ?_
    refine gf_X0_15 S hK hP h0 dX0_add_13 hf (fun x2 hx2 hf => ?_)
    refine lv_aload_n hx hb dX0_add_16 rfl (lv_at hl 0 rfl) ?_
    refine gf_X0_40 S hK hP h0 dX0_add_17 hf (fun x3 hf => ?_)
    refine lv_iload_n hx hb dX0_add_20 rfl (lv_at hl 1 rfl) ?_
    refine r_iast S hK hG hP hS hx2 dX0_add_21 hf (fun M H locs hP hS hf => ?_)
    refine lv_aload_n hx hb dX0_add_22 rfl (lv_at hl 0 rfl) ?_
    refine gf_X0_18 S hK hP h0 dX0_add_23 hf (fun x4 hx4 hf => ?_)
    refine lv_aload_n hx hb dX0_add_26 rfl (lv_at hl 0 rfl) ?_
    refine gf_X0_40 S hK hP h0 dX0_add_27 hf (fun x5 hf => ?_)
    refine lv_iload_n hx hb dX0_add_30 rfl (lv_at hl 2 rfl) ?_
    refine r_iast S hK hG hP hS hx4 dX0_add_31 hf (fun M H locs hP hS hf => ?_)
    refine lv_aload_n hx hb dX0_add_32 rfl (lv_at hl 0 rfl) ?_
    refine gf_X0_21 S hK hP h0 dX0_add_33 hf (fun x6 hx6 hf => ?_)
    refine lv_aload_n hx hb dX0_add_36 rfl (lv_at hl 0 rfl) ?_
    refine gf_X0_40 S hK hP h0 dX0_add_37 hf (fun x7 hf => ?_)
    refine lv_iload_n hx hb dX0_add_40 rfl (lv_at hl 3 rfl) ?_
    refine r_iast S hK hG hP hS hx6 dX0_add_41 hf (fun M H locs hP hS hf => ?_)
    refine lv_aload_n hx hb dX0_add_42 rfl (lv_at hl 0 rfl) ?_
    refine gf_X0_24 S hK hP h0 dX0_add_43 hf (fun x8 hx8 hf => ?_)
    refine lv_aload_n hx hb dX0_add_46 rfl (lv_at hl 0 rfl) ?_
    refine gf_X0_40 S hK hP h0 dX0_add_47 hf (fun x9 hf => ?_)
    refine lv_iload hx hb dX0_add_50 (lv_at hl 4 rfl) ?_
    refine r_iast S hK hG hP hS hx8 dX0_add_52 hf (fun M H locs hP hS hf => ?_)
    refine lv_aload_n hx hb dX0_add_53 rfl (lv_at hl 0 rfl) ?_
    refine gf_X0_27 S hK hP h0 dX0_add_54 hf (fun x10 hx10 hf => ?_)
    refine lv_aload_n hx hb dX0_add_57 rfl (lv_at hl 0 rfl) ?_
    refine gf_X0_40 S hK hP h0 dX0_add_58 hf (fun x11 hf => ?_)
    refine lv_iload hx hb dX0_add_61 (lv_at hl 5 rfl) ?_
    refine r_iast S hK hG hP hS hx10 dX0_add_63 hf (fun M H locs hP hS hf => ?_)
    refine lv_aload_n hx hb dX0_add_64 rfl (lv_at hl 0 rfl) ?_
    refine lv_dup hx hb dX0_add_65 rfl ?_
    refine gf_X0_40 S hK hP h0 dX0_add_66 hf (fun x12 hf => ?_)
    refine lv_iconst (v := 1) hx hb dX0_add_69 (by decide) ?_
    refine lv_iadd hx hb dX0_add_70 ?_
    refine pf_X0_40 S hK hG hP hS h0 dX0_add_71 hf (fun M H locs hP hS hf => ?_)
    refine lv_aload_n hx hb dX0_add_74 rfl (lv_at hl 0 rfl) ?_
    refine gf_X0_40 S hK hP h0 dX0_add_75 hf (fun x13 hf => ?_)
    refine lv_iconst (v := 1) hx hb dX0_add_78 (by decide) ?_
    refine lv_isub hx hb dX0_add_79 ?_
    exact hret _ _ _ _ _ _ dX0_add_80 hP hS rfl hf
  · refine lv_ldc (v := (-1000000003)) hx hb hown (ht _ k_411) dX0_add_9 ?_
    exact hret _ _ _ _ _ _ dX0_add_11 hP hS rfl hf
def f_X0_yearOf (o : Nat) (p1 : Int32) (M : Mem) : Option (Int32 × Mem) :=
  vv (grf G1 o 1) fun x1 =>
  vv (grf G1 o 3) fun x2 =>
  ld M x2 p1 40 fun x3 =>
  ld M x1 x3 12 fun x4 =>
  some (x4, M)
def rm_X0_yearOf : Room := { frames := 0, cells := 0, slots := 0, locals := 0 }
set_option maxHeartbeats 4000000 in
set_option maxRecDepth 100000 in
theorem c_X0_yearOf {l : Launch} {D : va_G} {K : Ks} {ad : Nat → Nat} {A : Nat → Prop} {tC tA tP : Nat} {kK kV : Nat → Nat} (hG : Gok G1 ad A) {o : Nat} {p1 : Int32} (h0 : gcl G1 o = 0) {M : Mem} {r : Int32} {M' : Mem} (hf : f_X0_yearOf o p1 M = some (r, M')) : Ct l (E1 A tC tA tP kK kV) D K G1 ad A yX0_yearOf (ws_of yX0_yearOf cX0_yearOf 2 (some .int)) rm_X0_yearOf .int [.ref (ad o), .int p1] M r M' := by
  have hst : Est A (E1 A tC tA tP kK kV) := est1
  refine Ct.ofW (by decide) (Nat.le_of_ble_eq_true rfl) ?_
  intro p e s m args below meth c Q H locs ls S hK hE hP hS hl hret
  have hx := S.1
  have hb := S.2.1
  have hown := S.2.2.2.1
  have ht := S.2.2.2.2
  have hl : lv_has ls 2 [(0, .ref (ad o)), (1, .int p1)] := hl
  unfold f_X0_yearOf at hf
  refine lv_aload_n hx hb dX0_yearOf_0 rfl (lv_at hl 0 rfl) ?_
  refine gf_X0_9 S hK hP h0 dX0_yearOf_1 hf (fun x1 hx1 hf => ?_)
  refine lv_aload_n hx hb dX0_yearOf_4 rfl (lv_at hl 0 rfl) ?_
  refine gf_X0_15 S hK hP h0 dX0_yearOf_5 hf (fun x2 hx2 hf => ?_)
  refine lv_iload_n hx hb dX0_yearOf_8 rfl (lv_at hl 1 rfl) ?_
  refine r_iald S hK hP hx2 dX0_yearOf_9 hf (fun x3 hf => ?_)
  refine r_iald S hK hP hx1 dX0_yearOf_10 hf (fun x4 hf => ?_)
  exact hret _ _ _ _ _ _ dX0_yearOf_11 hP hS rfl hf
def f_X0_aheadOf (o : Nat) (p1 : Int32) (M : Mem) : Option (Int32 × Mem) :=
  it2 (fun rc3 (v1 : Int32) (v2 : Int32) M =>
    if v2 < p1 then
      vv (grf G1 o 3) fun x4 =>
      ld M x4 v2 40 fun x5 =>
      vv (grf G1 o 3) fun x6 =>
      ld M x6 p1 40 fun x7 =>
      if x5 = x7 then
        rc3 (v1 + 1) (v2 + 1) M
      else
        rc3 v1 (v2 + 1) M
    else
      some (v1, M)
  ) fuel 0 0 M
def rm_X0_aheadOf : Room := { frames := 0, cells := 0, slots := 0, locals := 0 }
set_option maxHeartbeats 4000000 in
set_option maxRecDepth 100000 in
theorem c_X0_aheadOf {l : Launch} {D : va_G} {K : Ks} {ad : Nat → Nat} {A : Nat → Prop} {tC tA tP : Nat} {kK kV : Nat → Nat} (hG : Gok G1 ad A) {o : Nat} {p1 : Int32} (h0 : gcl G1 o = 0) {M : Mem} {r : Int32} {M' : Mem} (hf : f_X0_aheadOf o p1 M = some (r, M')) : Ct l (E1 A tC tA tP kK kV) D K G1 ad A yX0_aheadOf (ws_of yX0_aheadOf cX0_aheadOf 4 (some .int)) rm_X0_aheadOf .int [.ref (ad o), .int p1] M r M' := by
  have hst : Est A (E1 A tC tA tP kK kV) := est1
  refine Ct.ofW (by decide) (Nat.le_of_ble_eq_true rfl) ?_
  intro p e s m args below meth c Q H locs ls S hK hE hP hS hl hret
  have hx := S.1
  have hb := S.2.1
  have hown := S.2.2.2.1
  have ht := S.2.2.2.2
  have hl : lv_has ls 4 [(0, .ref (ad o)), (1, .int p1)] := hl
  unfold f_X0_aheadOf at hf
  refine lv_iconst (v := 0) hx hb dX0_aheadOf_0 (by decide) ?_
  refine lv_istore_n (lv' := [(2, .int 0), (0, .ref (ad o)), (1, .int p1)]) hx hb dX0_aheadOf_1 rfl hl (by decide) rfl (fun ls hl => ?_)
  refine lv_iconst (v := 0) hx hb dX0_aheadOf_2 (by decide) ?_
  refine lv_istore_n (lv' := [(3, .int 0), (2, .int 0), (0, .ref (ad o)), (1, .int p1)]) hx hb dX0_aheadOf_3 rfl hl (by decide) rfl (fun ls hl => ?_)
  obtain ⟨F3, hF3, hf⟩ := it2_g hf
  have L3 : ∀ (n : Nat) (v1 : Int32) (v2 : Int32) (M : Mem) (H : Heap) (locs : List Loc) (ls : Array Slot), lv_has ls 4 [(0, .ref (ad o)), (1, .int p1), (2, .int v1), (3, .int v2)] → va_P D classes (gws K G1 ad M) H → va_S A s.heap H locs → it2 F3 n v1 v2 M = some (r, M') → W p l e rm_X0_aheadOf s m args below meth c H locs 0 0 Q (F0 m 4 ls []) := by
    intro n
    induction n with
    | zero => intro v1 v2 M H locs ls hl hP hS hf; exact nomatch hf
    | succ n ih3 =>
      intro v1 v2 M H locs ls hl hP hS hf
      obtain ⟨rc3, hrc3, hf⟩ := it2_w hf
      rw [← hrc3] at ih3
      rw [hF3] at hf
      refine lv_iload_n hx hb dX0_aheadOf_4 rfl (lv_at hl 3 rfl) ?_
      refine lv_iload_n hx hb dX0_aheadOf_5 rfl (lv_at hl 1 rfl) ?_
      refine r_icmp_ge (tgt := 33) S dX0_aheadOf_6 (by decide) hf (fun hf => ?_) (fun hf => ?_)
      · refine lv_iload_n hx hb dX0_aheadOf_33 rfl (lv_at hl 2 rfl) ?_
        exact hret _ _ _ _ _ _ dX0_aheadOf_34 hP hS rfl hf
      · refine lv_aload_n hx hb dX0_aheadOf_9 rfl (lv_at hl 0 rfl) ?_
        refine gf_X0_15 S hK hP h0 dX0_aheadOf_10 hf (fun x4 hx4 hf => ?_)
        refine lv_iload_n hx hb dX0_aheadOf_13 rfl (lv_at hl 3 rfl) ?_
        refine r_iald S hK hP hx4 dX0_aheadOf_14 hf (fun x5 hf => ?_)
        refine lv_aload_n hx hb dX0_aheadOf_15 rfl (lv_at hl 0 rfl) ?_
        refine gf_X0_15 S hK hP h0 dX0_aheadOf_16 hf (fun x6 hx6 hf => ?_)
        refine lv_iload_n hx hb dX0_aheadOf_19 rfl (lv_at hl 1 rfl) ?_
        refine r_iald S hK hP hx6 dX0_aheadOf_20 hf (fun x7 hf => ?_)
        refine r_icmp_ne (tgt := 27) S dX0_aheadOf_21 (by decide) hf (fun hf => ?_) (fun hf => ?_)
        · refine lv_iinc (v := (v2 + 1)) (lv' := [(3, .int (v2 + 1)), (0, .ref (ad o)), (1, .int p1), (2, .int v1)]) hx hb dX0_aheadOf_27 hl (k := 3) rfl rfl (by decide) rfl (fun ls hl => ?_)
          refine lv_goto (tgt := 4) hx hb dX0_aheadOf_30 (by decide) ?_
          exact ih3 v1 (v2 + 1) M H locs ls (lv_sub hl [1, 2, 3, 0] rfl) hP hS hf
        · refine lv_iinc (v := (v1 + 1)) (lv' := [(2, .int (v1 + 1)), (0, .ref (ad o)), (1, .int p1), (3, .int v2)]) hx hb dX0_aheadOf_24 hl (k := 2) rfl rfl (by decide) rfl (fun ls hl => ?_)
          refine lv_iinc (v := (v2 + 1)) (lv' := [(3, .int (v2 + 1)), (2, .int (v1 + 1)), (0, .ref (ad o)), (1, .int p1)]) hx hb dX0_aheadOf_27 hl (k := 3) rfl rfl (by decide) rfl (fun ls hl => ?_)
          refine lv_goto (tgt := 4) hx hb dX0_aheadOf_30 (by decide) ?_
          exact ih3 (v1 + 1) (v2 + 1) M H locs ls (lv_sub hl [2, 3, 1, 0] rfl) hP hS hf
  exact L3 _ 0 0 M H locs ls (lv_sub hl [2, 3, 1, 0] rfl) hP hS hf
def f_X0_withLast (o : Nat) (p1 : Int32) (M : Mem) : Option (Int32 × Mem) :=
  it2 (fun rc3 (v1 : Int32) (v2 : Int32) M =>
    vv (M o 2) fun x4 =>
    if v2 < x4 then
      vv (grf G1 o 5) fun x5 =>
      ld M x5 v2 40 fun x6 =>
      if (jr x6 10) = p1 then
        rc3 (v1 + 1) (v2 + 1) M
      else
        rc3 v1 (v2 + 1) M
    else
      some (v1, M)
  ) fuel 0 0 M
def rm_X0_withLast : Room := { frames := 0, cells := 0, slots := 0, locals := 0 }
set_option maxHeartbeats 4000000 in
set_option maxRecDepth 100000 in
theorem c_X0_withLast {l : Launch} {D : va_G} {K : Ks} {ad : Nat → Nat} {A : Nat → Prop} {tC tA tP : Nat} {kK kV : Nat → Nat} (hG : Gok G1 ad A) {o : Nat} {p1 : Int32} (h0 : gcl G1 o = 0) {M : Mem} {r : Int32} {M' : Mem} (hf : f_X0_withLast o p1 M = some (r, M')) : Ct l (E1 A tC tA tP kK kV) D K G1 ad A yX0_withLast (ws_of yX0_withLast cX0_withLast 4 (some .int)) rm_X0_withLast .int [.ref (ad o), .int p1] M r M' := by
  have hst : Est A (E1 A tC tA tP kK kV) := est1
  refine Ct.ofW (by decide) (Nat.le_of_ble_eq_true rfl) ?_
  intro p e s m args below meth c Q H locs ls S hK hE hP hS hl hret
  have hx := S.1
  have hb := S.2.1
  have hown := S.2.2.2.1
  have ht := S.2.2.2.2
  have hl : lv_has ls 4 [(0, .ref (ad o)), (1, .int p1)] := hl
  unfold f_X0_withLast at hf
  refine lv_iconst (v := 0) hx hb dX0_withLast_0 (by decide) ?_
  refine lv_istore_n (lv' := [(2, .int 0), (0, .ref (ad o)), (1, .int p1)]) hx hb dX0_withLast_1 rfl hl (by decide) rfl (fun ls hl => ?_)
  refine lv_iconst (v := 0) hx hb dX0_withLast_2 (by decide) ?_
  refine lv_istore_n (lv' := [(3, .int 0), (2, .int 0), (0, .ref (ad o)), (1, .int p1)]) hx hb dX0_withLast_3 rfl hl (by decide) rfl (fun ls hl => ?_)
  obtain ⟨F3, hF3, hf⟩ := it2_g hf
  have L3 : ∀ (n : Nat) (v1 : Int32) (v2 : Int32) (M : Mem) (H : Heap) (locs : List Loc) (ls : Array Slot), lv_has ls 4 [(0, .ref (ad o)), (1, .int p1), (2, .int v1), (3, .int v2)] → va_P D classes (gws K G1 ad M) H → va_S A s.heap H locs → it2 F3 n v1 v2 M = some (r, M') → W p l e rm_X0_withLast s m args below meth c H locs 0 0 Q (F0 m 4 ls []) := by
    intro n
    induction n with
    | zero => intro v1 v2 M H locs ls hl hP hS hf; exact nomatch hf
    | succ n ih3 =>
      intro v1 v2 M H locs ls hl hP hS hf
      obtain ⟨rc3, hrc3, hf⟩ := it2_w hf
      rw [← hrc3] at ih3
      rw [hF3] at hf
      refine lv_iload_n hx hb dX0_withLast_4 rfl (lv_at hl 3 rfl) ?_
      refine lv_aload_n hx hb dX0_withLast_5 rfl (lv_at hl 0 rfl) ?_
      refine gf_X0_40 S hK hP h0 dX0_withLast_6 hf (fun x4 hf => ?_)
      refine r_icmp_ge (tgt := 34) S dX0_withLast_9 (by decide) hf (fun hf => ?_) (fun hf => ?_)
      · refine lv_iload_n hx hb dX0_withLast_34 rfl (lv_at hl 2 rfl) ?_
        exact hret _ _ _ _ _ _ dX0_withLast_35 hP hS rfl hf
      · refine lv_aload_n hx hb dX0_withLast_12 rfl (lv_at hl 0 rfl) ?_
        refine gf_X0_21 S hK hP h0 dX0_withLast_13 hf (fun x5 hx5 hf => ?_)
        refine lv_iload_n hx hb dX0_withLast_16 rfl (lv_at hl 3 rfl) ?_
        refine r_iald S hK hP hx5 dX0_withLast_17 hf (fun x6 hf => ?_)
        refine lv_bipush (v := 10) hx hb dX0_withLast_18 (by decide) ?_
        refine lv_irem hx hb dX0_withLast_20 (by decide) ?_
        refine lv_iload_n hx hb dX0_withLast_21 rfl (lv_at hl 1 rfl) ?_
        refine r_icmp_ne (tgt := 28) S dX0_withLast_22 (by decide) hf (fun hf => ?_) (fun hf => ?_)
        · refine lv_iinc (v := (v2 + 1)) (lv' := [(3, .int (v2 + 1)), (0, .ref (ad o)), (1, .int p1), (2, .int v1)]) hx hb dX0_withLast_28 hl (k := 3) rfl rfl (by decide) rfl (fun ls hl => ?_)
          refine lv_goto (tgt := 4) hx hb dX0_withLast_31 (by decide) ?_
          exact ih3 v1 (v2 + 1) M H locs ls (lv_sub hl [1, 2, 3, 0] rfl) hP hS hf
        · refine lv_iinc (v := (v1 + 1)) (lv' := [(2, .int (v1 + 1)), (0, .ref (ad o)), (1, .int p1), (3, .int v2)]) hx hb dX0_withLast_25 hl (k := 2) rfl rfl (by decide) rfl (fun ls hl => ?_)
          refine lv_iinc (v := (v2 + 1)) (lv' := [(3, .int (v2 + 1)), (2, .int (v1 + 1)), (0, .ref (ad o)), (1, .int p1)]) hx hb dX0_withLast_28 hl (k := 3) rfl rfl (by decide) rfl (fun ls hl => ?_)
          refine lv_goto (tgt := 4) hx hb dX0_withLast_31 (by decide) ?_
          exact ih3 (v1 + 1) (v2 + 1) M H locs ls (lv_sub hl [2, 3, 1, 0] rfl) hP hS hf
  exact L3 _ 0 0 M H locs ls (lv_sub hl [2, 3, 1, 0] rfl) hP hS hf
