section
variable {p : Program} {l : Launch} {e : Env} {R : Room} {s : State} {m : MethodId} {args : Array Value} {below : List Frame} {meth : Method} {c : Code} {H : Heap} {locs : List Loc} {cells slots : Nat} {Q : State → Prop} {cc : ByteArray} {pc : Nat} {ls : Array Slot} {rest : List Value} {nL : Nat} {D : va_G} {K : Ks} {ad : Nat → Nat} {A : Nat → Prop} {M : Mem} {β : Type} {z : β}
theorem gf_X0_15 (S : CallFix p m c cc nL s args Tw RX0) (hK : va_K D classes (gty K) s) (hP : va_P D classes (gws K G1 ad M) H) {a : Nat} {kk : Nat → Option β} (ha : gcl G1 a = 0) (hdg : decode cc pc = .ok (.getfield 15, 3)) (hf : vv (grf G1 a 3) kk = some z) (w : ∀ b, gcl G1 b = 20 ∧ gsz G1 b = 40 → kk b = some z → W p l e R s m args below meth c H locs cells slots Q (F0 m (pc + 3) ls (.ref (ad b) :: rest))) : W p l e R s m args below meth c H locs cells slots Q (F0 m pc ls (.ref (ad a) :: rest)) := r_getr S hK hP (T := TX0) inX0 rfl (by decide) (by decide) ha (sf_X0_3 ha).1 k_108 hdg hf (fun b e => w b (by rw [e]; exact (sf_X0_3 ha).2))
end
section
variable {p : Program} {l : Launch} {e : Env} {R : Room} {s : State} {m : MethodId} {args : Array Value} {below : List Frame} {meth : Method} {c : Code} {H : Heap} {locs : List Loc} {cells slots : Nat} {Q : State → Prop} {cc : ByteArray} {pc : Nat} {ls : Array Slot} {rest : List Value} {nL : Nat} {D : va_G} {K : Ks} {ad : Nat → Nat} {A : Nat → Prop} {M : Mem} {β : Type} {z : β}
theorem gf_X0_18 (S : CallFix p m c cc nL s args Tw RX0) (hK : va_K D classes (gty K) s) (hP : va_P D classes (gws K G1 ad M) H) {a : Nat} {kk : Nat → Option β} (ha : gcl G1 a = 0) (hdg : decode cc pc = .ok (.getfield 18, 3)) (hf : vv (grf G1 a 4) kk = some z) (w : ∀ b, gcl G1 b = 20 ∧ gsz G1 b = 40 → kk b = some z → W p l e R s m args below meth c H locs cells slots Q (F0 m (pc + 3) ls (.ref (ad b) :: rest))) : W p l e R s m args below meth c H locs cells slots Q (F0 m pc ls (.ref (ad a) :: rest)) := r_getr S hK hP (T := TX0) inX0 rfl (by decide) (by decide) ha (sf_X0_4 ha).1 k_111 hdg hf (fun b e => w b (by rw [e]; exact (sf_X0_4 ha).2))
end
section
variable {p : Program} {l : Launch} {e : Env} {R : Room} {s : State} {m : MethodId} {args : Array Value} {below : List Frame} {meth : Method} {c : Code} {H : Heap} {locs : List Loc} {cells slots : Nat} {Q : State → Prop} {cc : ByteArray} {pc : Nat} {ls : Array Slot} {rest : List Value} {nL : Nat} {D : va_G} {K : Ks} {ad : Nat → Nat} {A : Nat → Prop} {M : Mem} {β : Type} {z : β}
theorem gf_X0_21 (S : CallFix p m c cc nL s args Tw RX0) (hK : va_K D classes (gty K) s) (hP : va_P D classes (gws K G1 ad M) H) {a : Nat} {kk : Nat → Option β} (ha : gcl G1 a = 0) (hdg : decode cc pc = .ok (.getfield 21, 3)) (hf : vv (grf G1 a 5) kk = some z) (w : ∀ b, gcl G1 b = 20 ∧ gsz G1 b = 40 → kk b = some z → W p l e R s m args below meth c H locs cells slots Q (F0 m (pc + 3) ls (.ref (ad b) :: rest))) : W p l e R s m args below meth c H locs cells slots Q (F0 m pc ls (.ref (ad a) :: rest)) := r_getr S hK hP (T := TX0) inX0 rfl (by decide) (by decide) ha (sf_X0_5 ha).1 k_114 hdg hf (fun b e => w b (by rw [e]; exact (sf_X0_5 ha).2))
end
section
variable {p : Program} {l : Launch} {e : Env} {R : Room} {s : State} {m : MethodId} {args : Array Value} {below : List Frame} {meth : Method} {c : Code} {H : Heap} {locs : List Loc} {cells slots : Nat} {Q : State → Prop} {cc : ByteArray} {pc : Nat} {ls : Array Slot} {rest : List Value} {nL : Nat} {D : va_G} {K : Ks} {ad : Nat → Nat} {A : Nat → Prop} {M : Mem} {β : Type} {z : β}
theorem gf_X0_24 (S : CallFix p m c cc nL s args Tw RX0) (hK : va_K D classes (gty K) s) (hP : va_P D classes (gws K G1 ad M) H) {a : Nat} {kk : Nat → Option β} (ha : gcl G1 a = 0) (hdg : decode cc pc = .ok (.getfield 24, 3)) (hf : vv (grf G1 a 6) kk = some z) (w : ∀ b, gcl G1 b = 20 ∧ gsz G1 b = 40 → kk b = some z → W p l e R s m args below meth c H locs cells slots Q (F0 m (pc + 3) ls (.ref (ad b) :: rest))) : W p l e R s m args below meth c H locs cells slots Q (F0 m pc ls (.ref (ad a) :: rest)) := r_getr S hK hP (T := TX0) inX0 rfl (by decide) (by decide) ha (sf_X0_6 ha).1 k_117 hdg hf (fun b e => w b (by rw [e]; exact (sf_X0_6 ha).2))
end
section
variable {p : Program} {l : Launch} {e : Env} {R : Room} {s : State} {m : MethodId} {args : Array Value} {below : List Frame} {meth : Method} {c : Code} {H : Heap} {locs : List Loc} {cells slots : Nat} {Q : State → Prop} {cc : ByteArray} {pc : Nat} {ls : Array Slot} {rest : List Value} {nL : Nat} {D : va_G} {K : Ks} {ad : Nat → Nat} {A : Nat → Prop} {M : Mem} {β : Type} {z : β}
theorem gf_X0_27 (S : CallFix p m c cc nL s args Tw RX0) (hK : va_K D classes (gty K) s) (hP : va_P D classes (gws K G1 ad M) H) {a : Nat} {kk : Nat → Option β} (ha : gcl G1 a = 0) (hdg : decode cc pc = .ok (.getfield 27, 3)) (hf : vv (grf G1 a 7) kk = some z) (w : ∀ b, gcl G1 b = 20 ∧ gsz G1 b = 40 → kk b = some z → W p l e R s m args below meth c H locs cells slots Q (F0 m (pc + 3) ls (.ref (ad b) :: rest))) : W p l e R s m args below meth c H locs cells slots Q (F0 m pc ls (.ref (ad a) :: rest)) := r_getr S hK hP (T := TX0) inX0 rfl (by decide) (by decide) ha (sf_X0_7 ha).1 k_120 hdg hf (fun b e => w b (by rw [e]; exact (sf_X0_7 ha).2))
end
section
variable {p : Program} {l : Launch} {e : Env} {R : Room} {s : State} {m : MethodId} {args : Array Value} {below : List Frame} {meth : Method} {c : Code} {H : Heap} {locs : List Loc} {cells slots : Nat} {Q : State → Prop} {cc : ByteArray} {pc : Nat} {ls : Array Slot} {rest : List Value} {nL : Nat} {D : va_G} {K : Ks} {ad : Nat → Nat} {A : Nat → Prop} {M : Mem} {β : Type} {z : β}
theorem gf_X0_30 (S : CallFix p m c cc nL s args Tw RX0) (hK : va_K D classes (gty K) s) (hP : va_P D classes (gws K G1 ad M) H) {a : Nat} {kk : Int32 → Option β} (ha : gcl G1 a = 0) (hdg : decode cc pc = .ok (.getfield 30, 3)) (hf : vv (M a 0) kk = some z) (w : ∀ x, kk x = some z → W p l e R s m args below meth c H locs cells slots Q (F0 m (pc + 3) ls (.int x :: rest))) : W p l e R s m args below meth c H locs cells slots Q (F0 m pc ls (.ref (ad a) :: rest)) := r_geti S hK hP (T := TX0) inX0 rfl (by decide) (by decide) ha (sf_X0_0 ha) k_102 hdg hf w
end
section
variable {p : Program} {l : Launch} {e : Env} {R : Room} {s : State} {m : MethodId} {args : Array Value} {below : List Frame} {meth : Method} {c : Code} {H : Heap} {locs : List Loc} {cells slots : Nat} {Q : State → Prop} {cc : ByteArray} {pc : Nat} {ls : Array Slot} {rest : List Value} {nL : Nat} {D : va_G} {K : Ks} {ad : Nat → Nat} {A : Nat → Prop} {M : Mem} {β : Type} {z : β}
theorem gf_X0_40 (S : CallFix p m c cc nL s args Tw RX0) (hK : va_K D classes (gty K) s) (hP : va_P D classes (gws K G1 ad M) H) {a : Nat} {kk : Int32 → Option β} (ha : gcl G1 a = 0) (hdg : decode cc pc = .ok (.getfield 40, 3)) (hf : vv (M a 2) kk = some z) (w : ∀ x, kk x = some z → W p l e R s m args below meth c H locs cells slots Q (F0 m (pc + 3) ls (.int x :: rest))) : W p l e R s m args below meth c H locs cells slots Q (F0 m pc ls (.ref (ad a) :: rest)) := r_geti S hK hP (T := TX0) inX0 rfl (by decide) (by decide) ha (sf_X0_2 ha) k_105 hdg hf w
end
section
variable {p : Program} {l : Launch} {e : Env} {R : Room} {s : State} {m : MethodId} {args : Array Value} {below : List Frame} {meth : Method} {c : Code} {H : Heap} {locs : List Loc} {cells slots : Nat} {Q : State → Prop} {cc : ByteArray} {pc : Nat} {ls : Array Slot} {rest : List Value} {nL : Nat} {D : va_G} {K : Ks} {ad : Nat → Nat} {A : Nat → Prop} {M : Mem} {β : Type} {z : β}
theorem gf_X0_9 (S : CallFix p m c cc nL s args Tw RX0) (hK : va_K D classes (gty K) s) (hP : va_P D classes (gws K G1 ad M) H) {a : Nat} {kk : Nat → Option β} (ha : gcl G1 a = 0) (hdg : decode cc pc = .ok (.getfield 9, 3)) (hf : vv (grf G1 a 1) kk = some z) (w : ∀ b, gcl G1 b = 20 ∧ gsz G1 b = 12 → kk b = some z → W p l e R s m args below meth c H locs cells slots Q (F0 m (pc + 3) ls (.ref (ad b) :: rest))) : W p l e R s m args below meth c H locs cells slots Q (F0 m pc ls (.ref (ad a) :: rest)) := r_getr S hK hP (T := TX0) inX0 rfl (by decide) (by decide) ha (sf_X0_1 ha).1 k_104 hdg hf (fun b e => w b (by rw [e]; exact (sf_X0_1 ha).2))
end
section
variable {p : Program} {l : Launch} {e : Env} {R : Room} {s : State} {m : MethodId} {args : Array Value} {below : List Frame} {meth : Method} {c : Code} {H : Heap} {locs : List Loc} {cells slots : Nat} {Q : State → Prop} {cc : ByteArray} {pc : Nat} {ls : Array Slot} {rest : List Value} {nL : Nat} {D : va_G} {K : Ks} {ad : Nat → Nat} {A : Nat → Prop} {M : Mem} {β : Type} {z : β}
theorem pf_X0_30 (S : CallFix p m c cc nL s args Tw RX0) (hK : va_K D classes (gty K) s) (hG : Gok G1 ad A) (hP : va_P D classes (gws K G1 ad M) H) (hS : va_S A s.heap H locs) {a : Nat} {v : Int32} {kk : Mem → Option β} (ha : gcl G1 a = 0) (hdg : decode cc pc = .ok (.putfield 30, 3)) (hf : mm (up M a 0 v) kk = some z) (w : ∀ M H locs, va_P D classes (gws K G1 ad M) H → va_S A s.heap H locs → kk M = some z → W p l e R s m args below meth c H locs cells slots Q (F0 m (pc + 3) ls rest)) : W p l e R s m args below meth c H locs cells slots Q (F0 m pc ls (.int v :: .ref (ad a) :: rest)) := r_putt S hK hG hP hS (k := 0) (T := TX0) inX0 rfl (by decide) tyX0 tyX0_ok nmX0 (by decide) rfl rfl rfl ha (sf_X0_0 ha) k_102 hdg hf w
end
section
variable {p : Program} {l : Launch} {e : Env} {R : Room} {s : State} {m : MethodId} {args : Array Value} {below : List Frame} {meth : Method} {c : Code} {H : Heap} {locs : List Loc} {cells slots : Nat} {Q : State → Prop} {cc : ByteArray} {pc : Nat} {ls : Array Slot} {rest : List Value} {nL : Nat} {D : va_G} {K : Ks} {ad : Nat → Nat} {A : Nat → Prop} {M : Mem} {β : Type} {z : β}
theorem pf_X0_40 (S : CallFix p m c cc nL s args Tw RX0) (hK : va_K D classes (gty K) s) (hG : Gok G1 ad A) (hP : va_P D classes (gws K G1 ad M) H) (hS : va_S A s.heap H locs) {a : Nat} {v : Int32} {kk : Mem → Option β} (ha : gcl G1 a = 0) (hdg : decode cc pc = .ok (.putfield 40, 3)) (hf : mm (up M a 2 v) kk = some z) (w : ∀ M H locs, va_P D classes (gws K G1 ad M) H → va_S A s.heap H locs → kk M = some z → W p l e R s m args below meth c H locs cells slots Q (F0 m (pc + 3) ls rest)) : W p l e R s m args below meth c H locs cells slots Q (F0 m pc ls (.int v :: .ref (ad a) :: rest)) := r_putt S hK hG hP hS (k := 2) (T := TX0) inX0 rfl (by decide) tyX0 tyX0_ok nmX0 (by decide) rfl rfl rfl ha (sf_X0_2 ha) k_105 hdg hf w
end
def f_X0_become (o : Nat) (p1 : Nat) (M : Mem) : Option (Int32 × Mem) :=
  vv (M p1 0) fun x1 =>
  mm (up M o 0 x1) fun M =>
  vv (grf G1 p1 1) fun x2 =>
  vv (grf G1 o 1) fun x3 =>
  cy M x2 0 12 x3 0 12 12 fun M =>
  vv (M p1 2) fun x4 =>
  mm (up M o 2 x4) fun M =>
  vv (grf G1 p1 3) fun x5 =>
  vv (grf G1 o 3) fun x6 =>
  cy M x5 0 40 x6 0 40 40 fun M =>
  vv (grf G1 p1 4) fun x7 =>
  vv (grf G1 o 4) fun x8 =>
  cy M x7 0 40 x8 0 40 40 fun M =>
  vv (grf G1 p1 5) fun x9 =>
  vv (grf G1 o 5) fun x10 =>
  cy M x9 0 40 x10 0 40 40 fun M =>
  vv (grf G1 p1 6) fun x11 =>
  vv (grf G1 o 6) fun x12 =>
  cy M x11 0 40 x12 0 40 40 fun M =>
  vv (grf G1 p1 7) fun x13 =>
  vv (grf G1 o 7) fun x14 =>
  cy M x13 0 40 x14 0 40 40 fun M =>
  some (0, M)
def rm_X0_become : Room := { frames := 1, cells := 0, slots := 0, locals := 60 }
set_option maxHeartbeats 4000000 in
set_option maxRecDepth 100000 in
theorem c_X0_become {l : Launch} {D : va_G} {K : Ks} {ad : Nat → Nat} {A : Nat → Prop} {tC tA tP : Nat} {kK kV : Nat → Nat} (hG : Gok G1 ad A) {o : Nat} {p1 : Nat} (h0 : gcl G1 o = 0) (h1 : gcl G1 p1 = 0) {M : Mem} {r : Int32} {M' : Mem} (hf : f_X0_become o p1 M = some (r, M')) : Cv l (E1 A tC tA tP kK kV) D K G1 ad A yX0_become (ws_of yX0_become cX0_become 2 none) rm_X0_become [.ref (ad o), .ref (ad p1)] M M' := by
  have hst : Est A (E1 A tC tA tP kK kV) := est1
  refine Cv.ofW (r := r) (by decide) (Nat.le_of_ble_eq_true rfl) ?_
  intro p e s m args below meth c Q H locs ls S hK hE hP hS hl hret
  have hx := S.1
  have hb := S.2.1
  have hown := S.2.2.2.1
  have ht := S.2.2.2.2
  have hl : lv_has ls 2 [(0, .ref (ad o)), (1, .ref (ad p1))] := hl
  unfold f_X0_become at hf
  refine lv_aload_n hx hb dX0_become_0 rfl (lv_at hl 0 rfl) ?_
  refine lv_aload_n hx hb dX0_become_1 rfl (lv_at hl 1 rfl) ?_
  refine gf_X0_30 S hK hP h1 dX0_become_2 hf (fun x1 hf => ?_)
  refine pf_X0_30 S hK hG hP hS h0 dX0_become_5 hf (fun M H locs hP hS hf => ?_)
  refine lv_aload_n hx hb dX0_become_8 rfl (lv_at hl 1 rfl) ?_
  refine gf_X0_9 S hK hP h1 dX0_become_9 hf (fun x2 hx2 hf => ?_)
  refine lv_iconst (v := 0) hx hb dX0_become_12 (by decide) ?_
  refine lv_aload_n hx hb dX0_become_13 rfl (lv_at hl 0 rfl) ?_
  refine gf_X0_9 S hK hP h0 dX0_become_14 hf (fun x3 hx3 hf => ?_)
  refine lv_iconst (v := 0) hx hb dX0_become_17 (by decide) ?_
  refine lv_bipush (v := 12) hx hb dX0_become_18 (by decide) ?_
  refine r_copy S hK hG hP hS hx2 hx3 k_1062 k_729 k_728 k_80 hl.1 (Nat.le_of_ble_eq_true rfl) (Nat.le_of_ble_eq_true rfl) dX0_become_20 hf (fun M H locs hP hS hf => ?_)
  refine lv_aload_n hx hb dX0_become_23 rfl (lv_at hl 0 rfl) ?_
  refine lv_aload_n hx hb dX0_become_24 rfl (lv_at hl 1 rfl) ?_
  refine gf_X0_40 S hK hP h1 dX0_become_25 hf (fun x4 hf => ?_)
  refine pf_X0_40 S hK hG hP hS h0 dX0_become_28 hf (fun M H locs hP hS hf => ?_)
  refine lv_aload_n hx hb dX0_become_31 rfl (lv_at hl 1 rfl) ?_
  refine gf_X0_15 S hK hP h1 dX0_become_32 hf (fun x5 hx5 hf => ?_)
  refine lv_iconst (v := 0) hx hb dX0_become_35 (by decide) ?_
  refine lv_aload_n hx hb dX0_become_36 rfl (lv_at hl 0 rfl) ?_
  refine gf_X0_15 S hK hP h0 dX0_become_37 hf (fun x6 hx6 hf => ?_)
  refine lv_iconst (v := 0) hx hb dX0_become_40 (by decide) ?_
  refine lv_bipush (v := 40) hx hb dX0_become_41 (by decide) ?_
  refine r_copy S hK hG hP hS hx5 hx6 k_1062 k_729 k_728 k_80 hl.1 (Nat.le_of_ble_eq_true rfl) (Nat.le_of_ble_eq_true rfl) dX0_become_43 hf (fun M H locs hP hS hf => ?_)
  refine lv_aload_n hx hb dX0_become_46 rfl (lv_at hl 1 rfl) ?_
  refine gf_X0_18 S hK hP h1 dX0_become_47 hf (fun x7 hx7 hf => ?_)
  refine lv_iconst (v := 0) hx hb dX0_become_50 (by decide) ?_
  refine lv_aload_n hx hb dX0_become_51 rfl (lv_at hl 0 rfl) ?_
  refine gf_X0_18 S hK hP h0 dX0_become_52 hf (fun x8 hx8 hf => ?_)
  refine lv_iconst (v := 0) hx hb dX0_become_55 (by decide) ?_
  refine lv_bipush (v := 40) hx hb dX0_become_56 (by decide) ?_
  refine r_copy S hK hG hP hS hx7 hx8 k_1062 k_729 k_728 k_80 hl.1 (Nat.le_of_ble_eq_true rfl) (Nat.le_of_ble_eq_true rfl) dX0_become_58 hf (fun M H locs hP hS hf => ?_)
  refine lv_aload_n hx hb dX0_become_61 rfl (lv_at hl 1 rfl) ?_
  refine gf_X0_21 S hK hP h1 dX0_become_62 hf (fun x9 hx9 hf => ?_)
  refine lv_iconst (v := 0) hx hb dX0_become_65 (by decide) ?_
  refine lv_aload_n hx hb dX0_become_66 rfl (lv_at hl 0 rfl) ?_
  refine gf_X0_21 S hK hP h0 dX0_become_67 hf (fun x10 hx10 hf => ?_)
  refine lv_iconst (v := 0) hx hb dX0_become_70 (by decide) ?_
  refine lv_bipush (v := 40) hx hb dX0_become_71 (by decide) ?_
  refine r_copy S hK hG hP hS hx9 hx10 k_1062 k_729 k_728 k_80 hl.1 (Nat.le_of_ble_eq_true rfl) (Nat.le_of_ble_eq_true rfl) dX0_become_73 hf (fun M H locs hP hS hf => ?_)
  refine lv_aload_n hx hb dX0_become_76 rfl (lv_at hl 1 rfl) ?_
  refine gf_X0_24 S hK hP h1 dX0_become_77 hf (fun x11 hx11 hf => ?_)
  refine lv_iconst (v := 0) hx hb dX0_become_80 (by decide) ?_
  refine lv_aload_n hx hb dX0_become_81 rfl (lv_at hl 0 rfl) ?_
  refine gf_X0_24 S hK hP h0 dX0_become_82 hf (fun x12 hx12 hf => ?_)
  refine lv_iconst (v := 0) hx hb dX0_become_85 (by decide) ?_
  refine lv_bipush (v := 40) hx hb dX0_become_86 (by decide) ?_
  refine r_copy S hK hG hP hS hx11 hx12 k_1062 k_729 k_728 k_80 hl.1 (Nat.le_of_ble_eq_true rfl) (Nat.le_of_ble_eq_true rfl) dX0_become_88 hf (fun M H locs hP hS hf => ?_)
  refine lv_aload_n hx hb dX0_become_91 rfl (lv_at hl 1 rfl) ?_
  refine gf_X0_27 S hK hP h1 dX0_become_92 hf (fun x13 hx13 hf => ?_)
  refine lv_iconst (v := 0) hx hb dX0_become_95 (by decide) ?_
  refine lv_aload_n hx hb dX0_become_96 rfl (lv_at hl 0 rfl) ?_
  refine gf_X0_27 S hK hP h0 dX0_become_97 hf (fun x14 hx14 hf => ?_)
  refine lv_iconst (v := 0) hx hb dX0_become_100 (by decide) ?_
  refine lv_bipush (v := 40) hx hb dX0_become_101 (by decide) ?_
  refine r_copy S hK hG hP hS hx13 hx14 k_1062 k_729 k_728 k_80 hl.1 (Nat.le_of_ble_eq_true rfl) (Nat.le_of_ble_eq_true rfl) dX0_become_103 hf (fun M H locs hP hS hf => ?_)
  exact hret _ _ _ _ _ _ dX0_become_106 hP hS hf
def f_X0_hasTable (o : Nat) (p1 : Int32) (M : Mem) : Option (Int32 × Mem) :=
  if p1 < 0 then
    some (0, M)
  else
    vv (M o 0) fun x1 =>
    if p1 < x1 then
      some (1, M)
    else
      some (0, M)
def rm_X0_hasTable : Room := { frames := 0, cells := 0, slots := 0, locals := 0 }
set_option maxHeartbeats 4000000 in
set_option maxRecDepth 100000 in
theorem c_X0_hasTable {l : Launch} {D : va_G} {K : Ks} {ad : Nat → Nat} {A : Nat → Prop} {tC tA tP : Nat} {kK kV : Nat → Nat} (hG : Gok G1 ad A) {o : Nat} {p1 : Int32} (h0 : gcl G1 o = 0) {M : Mem} {r : Int32} {M' : Mem} (hf : f_X0_hasTable o p1 M = some (r, M')) : Ct l (E1 A tC tA tP kK kV) D K G1 ad A yX0_hasTable (ws_of yX0_hasTable cX0_hasTable 2 (some .boolean)) rm_X0_hasTable .boolean [.ref (ad o), .int p1] M r M' := by
  have hst : Est A (E1 A tC tA tP kK kV) := est1
  refine Ct.ofW (by decide) (Nat.le_of_ble_eq_true rfl) ?_
  intro p e s m args below meth c Q H locs ls S hK hE hP hS hl hret
  have hx := S.1
  have hb := S.2.1
  have hown := S.2.2.2.1
  have ht := S.2.2.2.2
  have hl : lv_has ls 2 [(0, .ref (ad o)), (1, .int p1)] := hl
  unfold f_X0_hasTable at hf
  refine lv_iload_n hx hb dX0_hasTable_0 rfl (lv_at hl 1 rfl) ?_
  refine r_if_lt (tgt := 16) S dX0_hasTable_1 (by decide) hf (fun hf => ?_) (fun hf => ?_)
  · refine lv_iconst (v := 0) hx hb dX0_hasTable_16 (by decide) ?_
    exact hret _ _ _ _ _ _ dX0_hasTable_17 hP hS rfl hf
  · refine lv_iload_n hx hb dX0_hasTable_4 rfl (lv_at hl 1 rfl) ?_
    refine lv_aload_n hx hb dX0_hasTable_5 rfl (lv_at hl 0 rfl) ?_
    refine gf_X0_30 S hK hP h0 dX0_hasTable_6 hf (fun x1 hf => ?_)
    refine r_icmp_ge (tgt := 16) S dX0_hasTable_9 (by decide) hf (fun hf => ?_) (fun hf => ?_)
    · refine lv_iconst (v := 0) hx hb dX0_hasTable_16 (by decide) ?_
      exact hret _ _ _ _ _ _ dX0_hasTable_17 hP hS rfl hf
    · refine lv_iconst (v := 1) hx hb dX0_hasTable_12 (by decide) ?_
      refine lv_goto (tgt := 17) hx hb dX0_hasTable_13 (by decide) ?_
      exact hret _ _ _ _ _ _ dX0_hasTable_17 hP hS rfl hf
def f_X0_has (o : Nat) (p1 : Int32) (M : Mem) : Option (Int32 × Mem) :=
  if p1 < 0 then
    some (0, M)
  else
    vv (M o 2) fun x1 =>
    if p1 < x1 then
      some (1, M)
    else
      some (0, M)
def rm_X0_has : Room := { frames := 0, cells := 0, slots := 0, locals := 0 }
set_option maxHeartbeats 4000000 in
set_option maxRecDepth 100000 in
theorem c_X0_has {l : Launch} {D : va_G} {K : Ks} {ad : Nat → Nat} {A : Nat → Prop} {tC tA tP : Nat} {kK kV : Nat → Nat} (hG : Gok G1 ad A) {o : Nat} {p1 : Int32} (h0 : gcl G1 o = 0) {M : Mem} {r : Int32} {M' : Mem} (hf : f_X0_has o p1 M = some (r, M')) : Ct l (E1 A tC tA tP kK kV) D K G1 ad A yX0_has (ws_of yX0_has cX0_has 2 (some .boolean)) rm_X0_has .boolean [.ref (ad o), .int p1] M r M' := by
  have hst : Est A (E1 A tC tA tP kK kV) := est1
  refine Ct.ofW (by decide) (Nat.le_of_ble_eq_true rfl) ?_
  intro p e s m args below meth c Q H locs ls S hK hE hP hS hl hret
  have hx := S.1
  have hb := S.2.1
  have hown := S.2.2.2.1
  have ht := S.2.2.2.2
  have hl : lv_has ls 2 [(0, .ref (ad o)), (1, .int p1)] := hl
  unfold f_X0_has at hf
  refine lv_iload_n hx hb dX0_has_0 rfl (lv_at hl 1 rfl) ?_
  refine r_if_lt (tgt := 16) S dX0_has_1 (by decide) hf (fun hf => ?_) (fun hf => ?_)
  · refine lv_iconst (v := 0) hx hb dX0_has_16 (by decide) ?_
    exact hret _ _ _ _ _ _ dX0_has_17 hP hS rfl hf
  · refine lv_iload_n hx hb dX0_has_4 rfl (lv_at hl 1 rfl) ?_
    refine lv_aload_n hx hb dX0_has_5 rfl (lv_at hl 0 rfl) ?_
    refine gf_X0_40 S hK hP h0 dX0_has_6 hf (fun x1 hf => ?_)
    refine r_icmp_ge (tgt := 16) S dX0_has_9 (by decide) hf (fun hf => ?_) (fun hf => ?_)
    · refine lv_iconst (v := 0) hx hb dX0_has_16 (by decide) ?_
      exact hret _ _ _ _ _ _ dX0_has_17 hP hS rfl hf
    · refine lv_iconst (v := 1) hx hb dX0_has_12 (by decide) ?_
      refine lv_goto (tgt := 17) hx hb dX0_has_13 (by decide) ?_
      exact hret _ _ _ _ _ _ dX0_has_17 hP hS rfl hf
def f_X0_addTable (o : Nat) (p1 : Int32) (M : Mem) : Option (Int32 × Mem) :=
  vv (M o 0) fun x1 =>
  jn (fun (M : Mem) =>
    vv (M o 0) fun x3 =>
    if x3 < 12 then
      vv (grf G1 o 1) fun x4 =>
      vv (M o 0) fun x5 =>
      st M x4 x5 12 p1 fun M =>
      vv (M o 0) fun x6 =>
      mm (up M o 0 (x6 + 1)) fun M =>
      vv (M o 0) fun x7 =>
      some ((x7 - 1), M)
    else
      some ((-1000000003), M)
  ) fun k2 =>
  if 0 < x1 then
    vv (grf G1 o 1) fun x8 =>
    vv (M o 0) fun x9 =>
    ld M x8 (x9 - 1) 12 fun x10 =>
    if p1 < x10 then
      some ((-1000000002), M)
    else
      k2 M
  else
    k2 M
def rm_X0_addTable : Room := { frames := 0, cells := 0, slots := 0, locals := 0 }
set_option maxHeartbeats 4000000 in
set_option maxRecDepth 100000 in
theorem c_X0_addTable {l : Launch} {D : va_G} {K : Ks} {ad : Nat → Nat} {A : Nat → Prop} {tC tA tP : Nat} {kK kV : Nat → Nat} (hG : Gok G1 ad A) {o : Nat} {p1 : Int32} (h0 : gcl G1 o = 0) {M : Mem} {r : Int32} {M' : Mem} (hf : f_X0_addTable o p1 M = some (r, M')) : Ct l (E1 A tC tA tP kK kV) D K G1 ad A yX0_addTable (ws_of yX0_addTable cX0_addTable 2 (some .int)) rm_X0_addTable .int [.ref (ad o), .int p1] M r M' := by
  have hst : Est A (E1 A tC tA tP kK kV) := est1
  refine Ct.ofW (by decide) (Nat.le_of_ble_eq_true rfl) ?_
  intro p e s m args below meth c Q H locs ls S hK hE hP hS hl hret
  have hx := S.1
  have hb := S.2.1
  have hown := S.2.2.2.1
  have ht := S.2.2.2.2
  have hl : lv_has ls 2 [(0, .ref (ad o)), (1, .int p1)] := hl
  unfold f_X0_addTable at hf
  refine lv_aload_n hx hb dX0_addTable_0 rfl (lv_at hl 0 rfl) ?_
  refine gf_X0_30 S hK hP h0 dX0_addTable_1 hf (fun x1 hf => ?_)
  obtain ⟨k2, hk2, hf⟩ := jn_w hf
  have J2 : ∀ (M : Mem) (H : Heap) (locs : List Loc) (ls : Array Slot), lv_has ls 2 [(0, .ref (ad o)), (1, .int p1)] → va_P D classes (gws K G1 ad M) H → va_S A s.heap H locs → k2 M = some (r, M') → W p l e rm_X0_addTable s m args below meth c H locs 0 0 Q (F0 m 25 ls []) := by
    intro M H locs ls hl hP hS hf
    rw [hk2] at hf
    refine lv_aload_n hx hb dX0_addTable_25 rfl (lv_at hl 0 rfl) ?_
    refine gf_X0_30 S hK hP h0 dX0_addTable_26 hf (fun x3 hf => ?_)
    refine lv_bipush (v := 12) hx hb dX0_addTable_29 (by decide) ?_
    refine r_icmp_lt (tgt := 37) S dX0_addTable_31 (by decide) hf (fun hf => ?_) (fun hf => ?_)
    · refine lv_aload_n hx hb dX0_addTable_37 rfl (lv_at hl 0 rfl) ?_
      refine gf_X0_9 S hK hP h0 dX0_addTable_38 hf (fun x4 hx4 hf => ?_)
      refine lv_aload_n hx hb dX0_addTable_41 rfl (lv_at hl 0 rfl) ?_
      refine gf_X0_30 S hK hP h0 dX0_addTable_42 hf (fun x5 hf => ?_)
      refine lv_iload_n hx hb dX0_addTable_45 rfl (lv_at hl 1 rfl) ?_
      refine r_iast S hK hG hP hS hx4 dX0_addTable_46 hf (fun M H locs hP hS hf => ?_)
      refine lv_aload_n hx hb dX0_addTable_47 rfl (lv_at hl 0 rfl) ?_
      refine lv_dup hx hb dX0_addTable_48 rfl ?_
      refine gf_X0_30 S hK hP h0 dX0_addTable_49 hf (fun x6 hf => ?_)
      refine lv_iconst (v := 1) hx hb dX0_addTable_52 (by decide) ?_
      refine lv_iadd hx hb dX0_addTable_53 ?_
      refine pf_X0_30 S hK hG hP hS h0 dX0_addTable_54 hf (fun M H locs hP hS hf => ?_)
      refine lv_aload_n hx hb dX0_addTable_57 rfl (lv_at hl 0 rfl) ?_
      refine gf_X0_30 S hK hP h0 dX0_addTable_58 hf (fun x7 hf => ?_)
      refine lv_iconst (v := 1) hx hb dX0_addTable_61 (by decide) ?_
      refine lv_isub hx hb dX0_addTable_62 ?_
      exact hret _ _ _ _ _ _ dX0_addTable_63 hP hS rfl hf
    · refine lv_ldc (v := (-1000000003)) hx hb hown (ht _ k_411) dX0_addTable_34 ?_
      exact hret _ _ _ _ _ _ dX0_addTable_36 hP hS rfl hf
  refine r_if_le (tgt := 25) S dX0_addTable_4 (by decide) hf (fun hf => ?_) (fun hf => ?_)
  · exact J2 M H locs ls (lv_sub hl [0, 1] rfl) hP hS hf
  · refine lv_iload_n hx hb dX0_addTable_7 rfl (lv_at hl 1 rfl) ?_
    refine lv_aload_n hx hb dX0_addTable_8 rfl (lv_at hl 0 rfl) ?_
    refine gf_X0_9 S hK hP h0 dX0_addTable_9 hf (fun x8 hx8 hf => ?_)
    refine lv_aload_n hx hb dX0_addTable_12 rfl (lv_at hl 0 rfl) ?_
    refine gf_X0_30 S hK hP h0 dX0_addTable_13 hf (fun x9 hf => ?_)
    refine lv_iconst (v := 1) hx hb dX0_addTable_16 (by decide) ?_
    refine lv_isub hx hb dX0_addTable_17 ?_
    refine r_iald S hK hP hx8 dX0_addTable_18 hf (fun x10 hf => ?_)
    refine r_icmp_ge (tgt := 25) S dX0_addTable_19 (by decide) hf (fun hf => ?_) (fun hf => ?_)
    · exact J2 M H locs ls (lv_sub hl [0, 1] rfl) hP hS hf
    · refine lv_ldc (v := (-1000000002)) hx hb hown (ht _ k_410) dX0_addTable_22 ?_
      exact hret _ _ _ _ _ _ dX0_addTable_24 hP hS rfl hf
def f_X0_add (o : Nat) (p1 : Int32) (p2 : Int32) (p3 : Int32) (p4 : Int32) (p5 : Int32) (M : Mem) : Option (Int32 × Mem) :=
  vv (M o 2) fun x1 =>
  if x1 < 40 then
    vv (grf G1 o 3) fun x2 =>
    vv (M o 2) fun x3 =>
    st M x2 x3 40 p1 fun M =>
    vv (grf G1 o 4) fun x4 =>
    vv (M o 2) fun x5 =>
    st M x4 x5 40 p2 fun M =>
    vv (grf G1 o 5) fun x6 =>
    vv (M o 2) fun x7 =>
    st M x6 x7 40 p3 fun M =>
    vv (grf G1 o 6) fun x8 =>
    vv (M o 2) fun x9 =>
    st M x8 x9 40 p4 fun M =>
    vv (grf G1 o 7) fun x10 =>
    vv (M o 2) fun x11 =>
    st M x10 x11 40 p5 fun M =>
    vv (M o 2) fun x12 =>
    mm (up M o 2 (x12 + 1)) fun M =>
    vv (M o 2) fun x13 =>
    some ((x13 - 1), M)
  else
    some ((-1000000003), M)
def rm_X0_add : Room := { frames := 0, cells := 0, slots := 0, locals := 0 }
set_option maxHeartbeats 4000000 in
set_option maxRecDepth 100000 in
theorem c_X0_add {l : Launch} {D : va_G} {K : Ks} {ad : Nat → Nat} {A : Nat → Prop} {tC tA tP : Nat} {kK kV : Nat → Nat} (hG : Gok G1 ad A) {o : Nat} {p1 : Int32} {p2 : Int32} {p3 : Int32} {p4 : Int32} {p5 : Int32} (h0 : gcl G1 o = 0) {M : Mem} {r : Int32} {M' : Mem} (hf : f_X0_add o p1 p2 p3 p4 p5 M = some (r, M')) : Ct l (E1 A tC tA tP kK kV) D K G1 ad A yX0_add (ws_of yX0_add cX0_add 6 (some .int)) rm_X0_add .int [.ref (ad o), .int p1, .int p2, .int p3, .int p4, .int p5] M r M' := by
  have hst : Est A (E1 A tC tA tP kK kV) := est1
  refine Ct.ofW (by decide) (Nat.le_of_ble_eq_true rfl) ?_
  intro p e s m args below meth c Q H locs ls S hK hE hP hS hl hret
  have hx := S.1
  have hb := S.2.1
  have hown := S.2.2.2.1
  have ht := S.2.2.2.2
  have hl : lv_has ls 6 [(0, .ref (ad o)), (1, .int p1), (2, .int p2), (3, .int p3), (4, .int p4), (5, .int p5)] := hl
  unfold f_X0_add at hf
  refine lv_aload_n hx hb dX0_add_0 rfl (lv_at hl 0 rfl) ?_
  refine gf_X0_40 S hK hP h0 dX0_add_1 hf (fun x1 hf => ?_)
  refine lv_bipush (v := 40) hx hb dX0_add_4 (by decide) ?_
  refine r_icmp_lt (tgt := 12) S dX0_add_6 (by decide) hf (fun hf => ?_) (fun hf => ?_)
  · refine lv_aload_n hx hb dX0_add_12 rfl (lv_at hl 0 rfl) ?_
    refine gf_X0_15 S hK hP h0 dX0_add_13 hf (fun x2 hx2 hf => ?_)
    refine lv_aload_n hx hb dX0_add_16 rfl (lv_at hl 0 rfl) ?_
    refine gf_X0_40 S hK hP h0 dX0_add_17 hf (fun x3 hf => ?_)
    refine lv_iload_n hx hb dX0_add_20 rfl (lv_at hl 1 rfl) ?_
    refine r_iast S hK hG hP hS hx2 dX0_add_21 hf (fun M H locs hP hS hf => ?_)
    refine lv_aload_n hx hb dX0_add_22 rfl (lv_at hl 0 rfl) ?_
    refine gf_X0_18 S hK hP h0 dX0_add_23 hf (fun x4 hx4 hf => ?_)
    refine lv_aload_n hx hb dX0_add_26 rfl (lv_at hl 0 rfl) ?_
    refine gf_X0_40 S hK hP h0 dX0_add_27 hf (fun x5 hf => ?_)
    refine lv_iload_n hx hb dX0_add_30 rfl (lv_at hl 2 rfl) ?_
    refine r_iast S hK hG hP hS hx4 dX0_add_31 hf (fun M H locs hP hS hf => ?_)
    refine lv_aload_n hx hb dX0_add_32 rfl (lv_at hl 0 rfl) ?_
    refine gf_X0_21 S hK hP h0 dX0_add_33 hf (fun x6 hx6 hf => ?_)
    refine lv_aload_n hx hb dX0_add_36 rfl (lv_at hl 0 rfl) ?_
    refine gf_X0_40 S hK hP h0 dX0_add_37 hf (fun x7 hf => ?_)
    refine lv_iload_n hx hb dX0_add_40 rfl (lv_at hl 3 rfl) ?_
    refine r_iast S hK hG hP hS hx6 dX0_add_41 hf (fun M H locs hP hS hf => ?_)
    refine lv_aload_n hx hb dX0_add_42 rfl (lv_at hl 0 rfl) ?_
    refine gf_X0_24 S hK hP h0 dX0_add_43 hf (fun x8 hx8 hf => ?_)
    refine lv_aload_n hx hb dX0_add_46 rfl (lv_at hl 0 rfl) ?_
    refine gf_X0_40 S hK hP h0 dX0_add_47 hf (fun x9 hf => ?_)
    refine lv_iload hx hb dX0_add_50 (lv_at hl 4 rfl) ?_
    refine r_iast S hK hG hP hS hx8 dX0_add_52 hf (fun M H locs hP hS hf => ?_)
    refine lv_aload_n hx hb dX0_add_53 rfl (lv_at hl 0 rfl) ?_
    refine gf_X0_27 S hK hP h0 dX0_add_54 hf (fun x10 hx10 hf => ?_)
    refine lv_aload_n hx hb dX0_add_57 rfl (lv_at hl 0 rfl) ?_
    refine gf_X0_40 S hK hP h0 dX0_add_58 hf (fun x11 hf => ?_)
    refine lv_iload hx hb dX0_add_61 (lv_at hl 5 rfl) ?_
    refine r_iast S hK hG hP hS hx10 dX0_add_63 hf (fun M H locs hP hS hf => ?_)
    refine lv_aload_n hx hb dX0_add_64 rfl (lv_at hl 0 rfl) ?_
    refine lv_dup hx hb dX0_add_65 rfl ?_
    refine gf_X0_40 S hK hP h0 dX0_add_66 hf (fun x12 hf => ?_)
    refine lv_iconst (v := 1) hx hb dX0_add_69 (by decide) ?_
    refine lv_iadd hx hb dX0_add_70 ?_
    refine pf_X0_40 S hK hG hP hS h0 dX0_add_71 hf (fun M H locs hP hS hf => ?_)
    refine lv_aload_n hx hb dX0_add_74 rfl (lv_at hl 0 rfl) ?_
    refine gf_X0_40 S hK hP h0 dX0_add_75 hf (fun x13 hf => ?_)
    refine lv_iconst (v := 1) hx hb dX0_add_78 (by decide) ?_
    refine lv_isub hx hb dX0_add_79 ?_
    exact hret _ _ _ _ _ _ dX0_add_80 hP hS rfl hf
  · refine lv_ldc (v := (-1000000003)) hx hb hown (ht _ k_411) dX0_add_9 ?_
    exact hret _ _ _ _ _ _ dX0_add_11 hP hS rfl hf
def f_X0_yearOf (o : Nat) (p1 : Int32) (M : Mem) : Option (Int32 × Mem) :=
  vv (grf G1 o 1) fun x1 =>
  vv (grf G1 o 3) fun x2 =>
  ld M x2 p1 40 fun x3 =>
  ld M x1 x3 12 fun x4 =>
  some (x4, M)
def rm_X0_yearOf : Room := { frames := 0, cells := 0, slots := 0, locals := 0 }
set_option maxHeartbeats 4000000 in
set_option maxRecDepth 100000 in
theorem c_X0_yearOf {l : Launch} {D : va_G} {K : Ks} {ad : Nat → Nat} {A : Nat → Prop} {tC tA tP : Nat} {kK kV : Nat → Nat} (hG : Gok G1 ad A) {o : Nat} {p1 : Int32} (h0 : gcl G1 o = 0) {M : Mem} {r : Int32} {M' : Mem} (hf : f_X0_yearOf o p1 M = some (r, M')) : Ct l (E1 A tC tA tP kK kV) D K G1 ad A yX0_yearOf (ws_of yX0_yearOf cX0_yearOf 2 (some .int)) rm_X0_yearOf .int [.ref (ad o), .int p1] M r M' := by
  have hst : Est A (E1 A tC tA tP kK kV) := est1
  refine Ct.ofW (by decide) (Nat.le_of_ble_eq_true rfl) ?_
  intro p e s m args below meth c Q H locs ls S hK hE hP hS hl hret
  have hx := S.1
  have hb := S.2.1
  have hown := S.2.2.2.1
  have ht := S.2.2.2.2
  have hl : lv_has ls 2 [(0, .ref (ad o)), (1, .int p1)] := hl
  unfold f_X0_yearOf at hf
  refine lv_aload_n hx hb dX0_yearOf_0 rfl (lv_at hl 0 rfl) ?_
  refine gf_X0_9 S hK hP h0 dX0_yearOf_1 hf (fun x1 hx1 hf => ?_)
  refine lv_aload_n hx hb dX0_yearOf_4 rfl (lv_at hl 0 rfl) ?_
  refine gf_X0_15 S hK hP h0 dX0_yearOf_5 hf (fun x2 hx2 hf => ?_)
  refine lv_iload_n hx hb dX0_yearOf_8 rfl (lv_at hl 1 rfl) ?_
  refine r_iald S hK hP hx2 dX0_yearOf_9 hf (fun x3 hf => ?_)
  refine r_iald S hK hP hx1 dX0_yearOf_10 hf (fun x4 hf => ?_)
  exact hret _ _ _ _ _ _ dX0_yearOf_11 hP hS rfl hf
def f_X0_aheadOf (o : Nat) (p1 : Int32) (M : Mem) : Option (Int32 × Mem) :=
  it2 (fun rc3 (v1 : Int32) (v2 : Int32) M =>
    if v2 < p1 then
      vv (grf G1 o 3) fun x4 =>
      ld M x4 v2 40 fun x5 =>
      vv (grf G1 o 3) fun x6 =>
      ld M x6 p1 40 fun x7 =>
      if x5 = x7 then
        rc3 (v1 + 1) (v2 + 1) M
      else
        rc3 v1 (v2 + 1) M
    else
      some (v1, M)
  ) fuel 0 0 M
def rm_X0_aheadOf : Room := { frames := 0, cells := 0, slots := 0, locals := 0 }
set_option maxHeartbeats 4000000 in
set_option maxRecDepth 100000 in
theorem c_X0_aheadOf {l : Launch} {D : va_G} {K : Ks} {ad : Nat → Nat} {A : Nat → Prop} {tC tA tP : Nat} {kK kV : Nat → Nat} (hG : Gok G1 ad A) {o : Nat} {p1 : Int32} (h0 : gcl G1 o = 0) {M : Mem} {r : Int32} {M' : Mem} (hf : f_X0_aheadOf o p1 M = some (r, M')) : Ct l (E1 A tC tA tP kK kV) D K G1 ad A yX0_aheadOf (ws_of yX0_aheadOf cX0_aheadOf 4 (some .int)) rm_X0_aheadOf .int [.ref (ad o), .int p1] M r M' := by
  have hst : Est A (E1 A tC tA tP kK kV) := est1
  refine Ct.ofW (by decide) (Nat.le_of_ble_eq_true rfl) ?_
  intro p e s m args below meth c Q H locs ls S hK hE hP hS hl hret
  have hx := S.1
  have hb := S.2.1
  have hown := S.2.2.2.1
  have ht := S.2.2.2.2
  have hl : lv_has ls 4 [(0, .ref (ad o)), (1, .int p1)] := hl
  unfold f_X0_aheadOf at hf
  refine lv_iconst (v := 0) hx hb dX0_aheadOf_0 (by decide) ?_
  refine lv_istore_n (lv' := [(2, .int 0), (0, .ref (ad o)), (1, .int p1)]) hx hb dX0_aheadOf_1 rfl hl (by decide) rfl (fun ls hl => ?_)
  refine lv_iconst (v := 0) hx hb dX0_aheadOf_2 (by decide) ?_
  refine lv_istore_n (lv' := [(3, .int 0), (2, .int 0), (0, .ref (ad o)), (1, .int p1)]) hx hb dX0_aheadOf_3 rfl hl (by decide) rfl (fun ls hl => ?_)
  obtain ⟨F3, hF3, hf⟩ := it2_g hf
  have L3 : ∀ (n : Nat) (v1 : Int32) (v2 : Int32) (M : Mem) (H : Heap) (locs : List Loc) (ls : Array Slot), lv_has ls 4 [(0, .ref (ad o)), (1, .int p1), (2, .int v1), (3, .int v2)] → va_P D classes (gws K G1 ad M) H → va_S A s.heap H locs → it2 F3 n v1 v2 M = some (r, M') → W p l e rm_X0_aheadOf s m args below meth c H locs 0 0 Q (F0 m 4 ls []) := by
    intro n
    induction n with
    | zero => intro v1 v2 M H locs ls hl hP hS hf; exact nomatch hf
    | succ n ih3 =>
      intro v1 v2 M H locs ls hl hP hS hf
      obtain ⟨rc3, hrc3, hf⟩ := it2_w hf
      rw [← hrc3] at ih3
      rw [hF3] at hf
      refine lv_iload_n hx hb dX0_aheadOf_4 rfl (lv_at hl 3 rfl) ?_
      refine lv_iload_n hx hb dX0_aheadOf_5 rfl (lv_at hl 1 rfl) ?_
      refine r_icmp_ge (tgt := 33) S dX0_aheadOf_6 (by decide) hf (fun hf => ?_) (fun hf => ?_)
      · refine lv_iload_n hx hb dX0_aheadOf_33 rfl (lv_at hl 2 rfl) ?_
        exact hret _ _ _ _ _ _ dX0_aheadOf_34 hP hS rfl hf
      · refine lv_aload_n hx hb dX0_aheadOf_9 rfl (lv_at hl 0 rfl) ?_
        refine gf_X0_15 S hK hP h0 dX0_aheadOf_10 hf (fun x4 hx4 hf => ?_)
        refine lv_iload_n hx hb dX0_aheadOf_13 rfl (lv_at hl 3 rfl) ?_
        refine r_iald S hK hP hx4 dX0_aheadOf_14 hf (fun x5 hf => ?_)
        refine lv_aload_n hx hb dX0_aheadOf_15 rfl (lv_at hl 0 rfl) ?_
        refine gf_X0_15 S hK hP h0 dX0_aheadOf_16 hf (fun x6 hx6 hf => ?_)
        refine lv_iload_n hx hb dX0_aheadOf_19 rfl (lv_at hl 1 rfl) ?_
        refine r_iald S hK hP hx6 dX0_aheadOf_20 hf (fun x7 hf => ?_)
        refine r_icmp_ne (tgt := 27) S dX0_aheadOf_21 (by decide) hf (fun hf => ?_) (fun hf => ?_)
        · refine lv_iinc (v := (v2 + 1)) (lv' := [(3, .int (v2 + 1)), (0, .ref (ad o)), (1, .int p1), (2, .int v1)]) hx hb dX0_aheadOf_27 hl (k := 3) rfl rfl (by decide) rfl (fun ls hl => ?_)
          refine lv_goto (tgt := 4) hx hb dX0_aheadOf_30 (by decide) ?_
          exact ih3 v1 (v2 + 1) M H locs ls (lv_sub hl [1, 2, 3, 0] rfl) hP hS hf
        · refine lv_iinc (v := (v1 + 1)) (lv' := [(2, .int (v1 + 1)), (0, .ref (ad o)), (1, .int p1), (3, .int v2)]) hx hb dX0_aheadOf_24 hl (k := 2) rfl rfl (by decide) rfl (fun ls hl => ?_)
          refine lv_iinc (v := (v2 + 1)) (lv' := [(3, .int (v2 + 1)), (2, .int (v1 + 1)), (0, .ref (ad o)), (1, .int p1)]) hx hb dX0_aheadOf_27 hl (k := 3) rfl rfl (by decide) rfl (fun ls hl => ?_)
          refine lv_goto (tgt := 4) hx hb dX0_aheadOf_30 (by decide) ?_
          exact ih3 (v1 + 1) (v2 + 1) M H locs ls (lv_sub hl [2, 3, 1, 0] rfl) hP hS hf
  exact L3 _ 0 0 M H locs ls (lv_sub hl [2, 3, 1, 0] rfl) hP hS hf
def f_X0_withLast (o : Nat) (p1 : Int32) (M : Mem) : Option (Int32 × Mem) :=
  it2 (fun rc3 (v1 : Int32) (v2 : Int32) M =>
    vv (M o 2) fun x4 =>
    if v2 < x4 then
      vv (grf G1 o 5) fun x5 =>
      ld M x5 v2 40 fun x6 =>
      if (jr x6 10) = p1 then
        rc3 (v1 + 1) (v2 + 1) M
      else
        rc3 v1 (v2 + 1) M
    else
      some (v1, M)
  ) fuel 0 0 M
def rm_X0_withLast : Room := { frames := 0, cells := 0, slots := 0, locals := 0 }
set_option maxHeartbeats 4000000 in
set_option maxRecDepth 100000 in
theorem c_X0_withLast {l : Launch} {D : va_G} {K : Ks} {ad : Nat → Nat} {A : Nat → Prop} {tC tA tP : Nat} {kK kV : Nat → Nat} (hG : Gok G1 ad A) {o : Nat} {p1 : Int32} (h0 : gcl G1 o = 0) {M : Mem} {r : Int32} {M' : Mem} (hf : f_X0_withLast o p1 M = some (r, M')) : Ct l (E1 A tC tA tP kK kV) D K G1 ad A yX0_withLast (ws_of yX0_withLast cX0_withLast 4 (some .int)) rm_X0_withLast .int [.ref (ad o), .int p1] M r M' := by
  have hst : Est A (E1 A tC tA tP kK kV) := est1
  refine Ct.ofW (by decide) (Nat.le_of_ble_eq_true rfl) ?_
  intro p e s m args below meth c Q H locs ls S hK hE hP hS hl hret
  have hx := S.1
  have hb := S.2.1
  have hown := S.2.2.2.1
  have ht := S.2.2.2.2
  have hl : lv_has ls 4 [(0, .ref (ad o)), (1, .int p1)] := hl
  unfold f_X0_withLast at hf
  refine lv_iconst (v := 0) hx hb dX0_withLast_0 (by decide) ?_
  refine lv_istore_n (lv' := [(2, .int 0), (0, .ref (ad o)), (1, .int p1)]) hx hb dX0_withLast_1 rfl hl (by decide) rfl (fun ls hl => ?_)
  refine lv_iconst (v := 0) hx hb dX0_withLast_2 (by decide) ?_
  refine lv_istore_n (lv' := [(3, .int 0), (2, .int 0), (0, .ref (ad o)), (1, .int p1)]) hx hb dX0_withLast_3 rfl hl (by decide) rfl (fun ls hl => ?_)
  obtain ⟨F3, hF3, hf⟩ := it2_g hf
  have L3 : ∀ (n : Nat) (v1 : Int32) (v2 : Int32) (M : Mem) (H : Heap) (locs : List Loc) (ls : Array Slot), lv_has ls 4 [(0, .ref (ad o)), (1, .int p1), (2, .int v1), (3, .int v2)] → va_P D classes (gws K G1 ad M) H → va_S A s.heap H locs → it2 F3 n v1 v2 M = some (r, M') → W p l e rm_X0_withLast s m args below meth c H locs 0 0 Q (F0 m 4 ls []) := by
    intro n
    induction n with
    | zero => intro v1 v2 M H locs ls hl hP hS hf; exact nomatch hf
    | succ n ih3 =>
      intro v1 v2 M H locs ls hl hP hS hf
      obtain ⟨rc3, hrc3, hf⟩ := it2_w hf
      rw [← hrc3] at ih3
      rw [hF3] at hf
      refine lv_iload_n hx hb dX0_withLast_4 rfl (lv_at hl 3 rfl) ?_
      refine lv_aload_n hx hb dX0_withLast_5 rfl (lv_at hl 0 rfl) ?_
      refine gf_X0_40 S hK hP h0 dX0_withLast_6 hf (fun x4 hf => ?_)
      refine r_icmp_ge (tgt := 34) S dX0_withLast_9 (by decide) hf (fun hf => ?_) (fun hf => ?_)
      · refine lv_iload_n hx hb dX0_withLast_34 rfl (lv_at hl 2 rfl) ?_
        exact hret _ _ _ _ _ _ dX0_withLast_35 hP hS rfl hf
      · refine lv_aload_n hx hb dX0_withLast_12 rfl (lv_at hl 0 rfl) ?_
        refine gf_X0_21 S hK hP h0 dX0_withLast_13 hf (fun x5 hx5 hf => ?_)
        refine lv_iload_n hx hb dX0_withLast_16 rfl (lv_at hl 3 rfl) ?_
        refine r_iald S hK hP hx5 dX0_withLast_17 hf (fun x6 hf => ?_)
        refine lv_bipush (v := 10) hx hb dX0_withLast_18 (by decide) ?_
        refine lv_irem hx hb dX0_withLast_20 (by decide) ?_
        refine lv_iload_n hx hb dX0_withLast_21 rfl (lv_at hl 1 rfl) ?_
        refine r_icmp_ne (tgt := 28) S dX0_withLast_22 (by decide) hf (fun hf => ?_) (fun hf => ?_)
        · refine lv_iinc (v := (v2 + 1)) (lv' := [(3, .int (v2 + 1)), (0, .ref (ad o)), (1, .int p1), (2, .int v1)]) hx hb dX0_withLast_28 hl (k := 3) rfl rfl (by decide) rfl (fun ls hl => ?_)
          refine lv_goto (tgt := 4) hx hb dX0_withLast_31 (by decide) ?_
          exact ih3 v1 (v2 + 1) M H locs ls (lv_sub hl [1, 2, 3, 0] rfl) hP hS hf
        · refine lv_iinc (v := (v1 + 1)) (lv' := [(2, .int (v1 + 1)), (0, .ref (ad o)), (1, .int p1), (3, .int v2)]) hx hb dX0_withLast_25 hl (k := 2) rfl rfl (by decide) rfl (fun ls hl => ?_)
          refine lv_iinc (v := (v2 + 1)) (lv' := [(3, .int (v2 + 1)), (2, .int (v1 + 1)), (0, .ref (ad o)), (1, .int p1)]) hx hb dX0_withLast_28 hl (k := 3) rfl rfl (by decide) rfl (fun ls hl => ?_)
          refine lv_goto (tgt := 4) hx hb dX0_withLast_31 (by decide) ?_
          exact ih3 (v1 + 1) (v2 + 1) M H locs ls (lv_sub hl [2, 3, 1, 0] rfl) hP hS hf
  exact L3 _ 0 0 M H locs ls (lv_sub hl [2, 3, 1, 0] rfl) hP hS hf
def f_X9_within (p0 : Int32) (p1 : Int32) (p2 : Int32) (M : Mem) : Option (Int32 × Mem) :=
  if p0 < p1 then
    some (0, M)
  else
    if p2 < p0 then
      some (0, M)
    else
      some (1, M)
def rm_X9_within : Room := { frames := 0, cells := 0, slots := 0, locals := 0 }
set_option maxHeartbeats 4000000 in
set_option maxRecDepth 100000 in
theorem c_X9_within {l : Launch} {D : va_G} {K : Ks} {ad : Nat → Nat} {A : Nat → Prop} {tC tA tP : Nat} {kK kV : Nat → Nat} (hG : Gok G1 ad A) {p0 : Int32} {p1 : Int32} {p2 : Int32}  {M : Mem} {r : Int32} {M' : Mem} (hf : f_X9_within p0 p1 p2 M = some (r, M')) : Ct l (E1 A tC tA tP kK kV) D K G1 ad A yX9_within (ws_of yX9_within cX9_within 3 (some .boolean)) rm_X9_within .boolean [.int p0, .int p1, .int p2] M r M' := by
  have hst : Est A (E1 A tC tA tP kK kV) := est1
  refine Ct.ofW (by decide) (Nat.le_of_ble_eq_true rfl) ?_
  intro p e s m args below meth c Q H locs ls S hK hE hP hS hl hret
  have hx := S.1
  have hb := S.2.1
  have hown := S.2.2.2.1
  have ht := S.2.2.2.2
  have hl : lv_has ls 3 [(0, .int p0), (1, .int p1), (2, .int p2)] := hl
  unfold f_X9_within at hf
  refine lv_iload_n hx hb dX9_within_0 rfl (lv_at hl 0 rfl) ?_
  refine lv_iload_n hx hb dX9_within_1 rfl (lv_at hl 1 rfl) ?_
  refine r_icmp_lt (tgt := 14) S dX9_within_2 (by decide) hf (fun hf => ?_) (fun hf => ?_)
  · refine lv_iconst (v := 0) hx hb dX9_within_14 (by decide) ?_
    exact hret _ _ _ _ _ _ dX9_within_15 hP hS rfl hf
  · refine lv_iload_n hx hb dX9_within_5 rfl (lv_at hl 0 rfl) ?_
    refine lv_iload_n hx hb dX9_within_6 rfl (lv_at hl 2 rfl) ?_
    refine r_icmp_gt (tgt := 14) S dX9_within_7 (by decide) hf (fun hf => ?_) (fun hf => ?_)
    · refine lv_iconst (v := 0) hx hb dX9_within_14 (by decide) ?_
      exact hret _ _ _ _ _ _ dX9_within_15 hP hS rfl hf
    · refine lv_iconst (v := 1) hx hb dX9_within_10 (by decide) ?_
      refine lv_goto (tgt := 15) hx hb dX9_within_11 (by decide) ?_
      exact hret _ _ _ _ _ _ dX9_within_15 hP hS rfl hf
theorem cw_X9_44 {R : Room} {s : State} {args : Array Value} (ht : ∀ w ∈ Tw, w.before args s = true) (hR : rm_X9_within.frames + 1 ≤ R.frames ∧ 8 + (3 + 11) + rm_X9_within.locals ≤ R.locals) : CallB R s args RX9 44 yX9_within cX9_within 3 (some .boolean) (ws_of yX9_within cX9_within 3 (some .boolean)) rm_X9_within 0 0 3 ∧ (Cond.static yX9_within).before args s = true := cw_S 3 ht k_402 k_403 k_63 k_404 (by decide +kernel) rfl rfl hR
def f_X9_isKind (p0 : Int32) (M : Mem) : Option (Int32 × Mem) :=
  bd (f_X9_within p0 0 7 M) fun x1 M =>
  some (x1, M)
def rm_X9_isKind : Room := { frames := 1, cells := 0, slots := 0, locals := 22 }
set_option maxHeartbeats 4000000 in
set_option maxRecDepth 100000 in
theorem c_X9_isKind {l : Launch} {D : va_G} {K : Ks} {ad : Nat → Nat} {A : Nat → Prop} {tC tA tP : Nat} {kK kV : Nat → Nat} (hG : Gok G1 ad A) {p0 : Int32}  {M : Mem} {r : Int32} {M' : Mem} (hf : f_X9_isKind p0 M = some (r, M')) : Ct l (E1 A tC tA tP kK kV) D K G1 ad A yX9_isKind (ws_of yX9_isKind cX9_isKind 1 (some .boolean)) rm_X9_isKind .boolean [.int p0] M r M' := by
  have hst : Est A (E1 A tC tA tP kK kV) := est1
  refine Ct.ofW (by decide) (Nat.le_of_ble_eq_true rfl) ?_
  intro p e s m args below meth c Q H locs ls S hK hE hP hS hl hret
  have hx := S.1
  have hb := S.2.1
  have hown := S.2.2.2.1
  have ht := S.2.2.2.2
  have hl : lv_has ls 1 [(0, .int p0)] := hl
  unfold f_X9_isKind at hf
  refine lv_iload_n hx hb dX9_isKind_0 rfl (lv_at hl 0 rfl) ?_
  refine lv_iconst (v := 0) hx hb dX9_isKind_1 (by decide) ?_
  refine lv_bipush (v := 7) hx hb dX9_isKind_2 (by decide) ?_
  refine r_callS (As := [.int p0, .int 0, .int 7]) (rest := []) S hK hE hst hP hS (cw_X9_44 ht ⟨Nat.le_of_ble_eq_true rfl, Nat.le_of_ble_eq_true rfl⟩) rfl hl.1 rfl (Nat.le_of_ble_eq_true rfl) dX9_isKind_4 z2 (fun _ _ h => c_X9_within hG  h) hf (fun x1 M H locs hP hS bx1 hf => ?_)
  exact hret _ _ _ _ _ _ dX9_isKind_7 hP hS bx1 hf
theorem cw_X9_63 {R : Room} {s : State} {args : Array Value} (ht : ∀ w ∈ Tw, w.before args s = true) (hR : rm_X9_isKind.frames + 1 ≤ R.frames ∧ 8 + (1 + 11) + rm_X9_isKind.locals ≤ R.locals) : CallB R s args RX9 63 yX9_isKind cX9_isKind 1 (some .boolean) (ws_of yX9_isKind cX9_isKind 1 (some .boolean)) rm_X9_isKind 0 0 1 ∧ (Cond.static yX9_isKind).before args s = true := cw_S 1 ht k_420 k_421 k_63 k_422 (by decide +kernel) rfl rfl hR
def f_X9_isOfKind (p0 : Int32) (p1 : Int32) (M : Mem) : Option (Int32 × Mem) :=
  it2 (fun rc3 (v1 : Int32) (v2 : Int32) M =>
    if 7 < v2 then
      some (0, M)
    else
      bd (f_X9_isKind v1 M) fun x4 M =>
      if x4 = 0 then
        some (0, M)
      else
        if v1 = p1 then
          some (1, M)
        else
          sl aboveF v1 8 fun x5 =>
          rc3 x5 (v2 + 1) M
  ) fuel p0 0 M
def rm_X9_isOfKind : Room := { frames := 2, cells := 0, slots := 0, locals := 42 }
set_option maxHeartbeats 4000000 in
set_option maxRecDepth 100000 in
theorem c_X9_isOfKind {l : Launch} {D : va_G} {K : Ks} {ad : Nat → Nat} {A : Nat → Prop} {tC tA tP : Nat} {kK kV : Nat → Nat} (hG : Gok G1 ad A) {p0 : Int32} {p1 : Int32}  {M : Mem} {r : Int32} {M' : Mem} (hf : f_X9_isOfKind p0 p1 M = some (r, M')) : Ct l (E1 A tC tA tP kK kV) D K G1 ad A yX9_isOfKind (ws_of yX9_isOfKind cX9_isOfKind 4 (some .boolean)) rm_X9_isOfKind .boolean [.int p0, .int p1] M r M' := by
  have hst : Est A (E1 A tC tA tP kK kV) := est1
  refine Ct.ofW (by decide) (Nat.le_of_ble_eq_true rfl) ?_
  intro p e s m args below meth c Q H locs ls S hK hE hP hS hl hret
  have hx := S.1
  have hb := S.2.1
  have hown := S.2.2.2.1
  have ht := S.2.2.2.2
  have hl : lv_has ls 4 [(0, .int p0), (1, .int p1)] := hl
  unfold f_X9_isOfKind at hf
  refine lv_iload_n hx hb dX9_isOfKind_0 rfl (lv_at hl 0 rfl) ?_
  refine lv_istore_n (lv' := [(2, .int p0), (0, .int p0), (1, .int p1)]) hx hb dX9_isOfKind_1 rfl hl (by decide) rfl (fun ls hl => ?_)
  refine lv_iconst (v := 0) hx hb dX9_isOfKind_2 (by decide) ?_
  refine lv_istore_n (lv' := [(3, .int 0), (2, .int p0), (0, .int p0), (1, .int p1)]) hx hb dX9_isOfKind_3 rfl hl (by decide) rfl (fun ls hl => ?_)
  obtain ⟨F3, hF3, hf⟩ := it2_g hf
  have L3 : ∀ (n : Nat) (v1 : Int32) (v2 : Int32) (M : Mem) (H : Heap) (locs : List Loc) (ls : Array Slot), lv_has ls 4 [(1, .int p1), (2, .int v1), (3, .int v2)] → va_P D classes (gws K G1 ad M) H → va_S A s.heap H locs → it2 F3 n v1 v2 M = some (r, M') → W p l e rm_X9_isOfKind s m args below meth c H locs 0 0 Q (F0 m 4 ls []) := by
    intro n
    induction n with
    | zero => intro v1 v2 M H locs ls hl hP hS hf; exact nomatch hf
    | succ n ih3 =>
      intro v1 v2 M H locs ls hl hP hS hf
      obtain ⟨rc3, hrc3, hf⟩ := it2_w hf
      rw [← hrc3] at ih3
      rw [hF3] at hf
      refine lv_iload_n hx hb dX9_isOfKind_4 rfl (lv_at hl 2 rfl) ?_
      refine lv_bipush (v := 7) hx hb dX9_isOfKind_5 (by decide) ?_
      refine r_icmp_gt (tgt := 36) S dX9_isOfKind_7 (by decide) hf (fun hf => ?_) (fun hf => ?_)
      · refine lv_iconst (v := 0) hx hb dX9_isOfKind_36 (by decide) ?_
        exact hret _ _ _ _ _ _ dX9_isOfKind_37 hP hS rfl hf
      · refine lv_iload_n hx hb dX9_isOfKind_10 rfl (lv_at hl 1 rfl) ?_
        refine r_callS (As := [.int v1]) (rest := []) S hK hE hst hP hS (cw_X9_63 ht ⟨Nat.le_of_ble_eq_true rfl, Nat.le_of_ble_eq_true rfl⟩) rfl hl.1 rfl (Nat.le_of_ble_eq_true rfl) dX9_isOfKind_11 z2 (fun _ _ h => c_X9_isKind hG  h) hf (fun x4 M H locs hP hS bx4 hf => ?_)
        refine r_if_eq (tgt := 36) S dX9_isOfKind_14 (by decide) hf (fun hf => ?_) (fun hf => ?_)
        · refine lv_iconst (v := 0) hx hb dX9_isOfKind_36 (by decide) ?_
          exact hret _ _ _ _ _ _ dX9_isOfKind_37 hP hS rfl hf
        · refine lv_iload_n hx hb dX9_isOfKind_17 rfl (lv_at hl 1 rfl) ?_
          refine lv_iload_n hx hb dX9_isOfKind_18 rfl (lv_at hl 0 rfl) ?_
          refine r_icmp_ne (tgt := 24) S dX9_isOfKind_19 (by decide) hf (fun hf => ?_) (fun hf => ?_)
          · refine va_gets hx hb hE.2.1.1 hS hown (ht _ k_518) (fun _ h => h) dX9_isOfKind_24 ?_
            refine lv_iload_n hx hb dX9_isOfKind_27 rfl (lv_at hl 1 rfl) ?_
            refine r_sl S hS hE.2.1.2 dX9_isOfKind_28 hf (fun x5 hf => ?_)
            refine lv_istore_n (lv' := [(2, .int x5), (1, .int p1), (3, .int v2)]) hx hb dX9_isOfKind_29 rfl hl (by decide) rfl (fun ls hl => ?_)
            refine lv_iinc (v := (v2 + 1)) (lv' := [(3, .int (v2 + 1)), (2, .int x5), (1, .int p1)]) hx hb dX9_isOfKind_30 hl (k := 2) rfl rfl (by decide) rfl (fun ls hl => ?_)
            refine lv_goto (tgt := 4) hx hb dX9_isOfKind_33 (by decide) ?_
            exact ih3 x5 (v2 + 1) M H locs ls (lv_sub hl [2, 1, 0] rfl) hP hS hf
          · refine lv_iconst (v := 1) hx hb dX9_isOfKind_22 (by decide) ?_
            exact hret _ _ _ _ _ _ dX9_isOfKind_23 hP hS rfl hf
  exact L3 _ p0 0 M H locs ls (lv_sub hl [3, 1, 0] rfl) hP hS hf
theorem cw_X9_126 {R : Room} {s : State} {args : Array Value} (ht : ∀ w ∈ Tw, w.before args s = true) (hR : rm_X9_isOfKind.frames + 1 ≤ R.frames ∧ 8 + (4 + 11) + rm_X9_isOfKind.locals ≤ R.locals) : CallB R s args RX9 126 yX9_isOfKind cX9_isOfKind 4 (some .boolean) (ws_of yX9_isOfKind cX9_isOfKind 4 (some .boolean)) rm_X9_isOfKind 0 0 2 ∧ (Cond.static yX9_isOfKind).before args s = true := cw_S 2 ht k_515 k_516 k_63 k_517 (by decide +kernel) rfl rfl hR
def f_X9_isUnkind (p0 : Int32) (M : Mem) : Option (Int32 × Mem) :=
  bd (f_X9_isOfKind p0 6 M) fun x1 M =>
  some (x1, M)
def rm_X9_isUnkind : Room := { frames := 3, cells := 0, slots := 0, locals := 65 }
set_option maxHeartbeats 4000000 in
set_option maxRecDepth 100000 in
theorem c_X9_isUnkind {l : Launch} {D : va_G} {K : Ks} {ad : Nat → Nat} {A : Nat → Prop} {tC tA tP : Nat} {kK kV : Nat → Nat} (hG : Gok G1 ad A) {p0 : Int32}  {M : Mem} {r : Int32} {M' : Mem} (hf : f_X9_isUnkind p0 M = some (r, M')) : Ct l (E1 A tC tA tP kK kV) D K G1 ad A yX9_isUnkind (ws_of yX9_isUnkind cX9_isUnkind 1 (some .boolean)) rm_X9_isUnkind .boolean [.int p0] M r M' := by
  have hst : Est A (E1 A tC tA tP kK kV) := est1
  refine Ct.ofW (by decide) (Nat.le_of_ble_eq_true rfl) ?_
  intro p e s m args below meth c Q H locs ls S hK hE hP hS hl hret
  have hx := S.1
  have hb := S.2.1
  have hown := S.2.2.2.1
  have ht := S.2.2.2.2
  have hl : lv_has ls 1 [(0, .int p0)] := hl
  unfold f_X9_isUnkind at hf
  refine lv_iload_n hx hb dX9_isUnkind_0 rfl (lv_at hl 0 rfl) ?_
  refine lv_bipush (v := 6) hx hb dX9_isUnkind_1 (by decide) ?_
  refine r_callS (As := [.int p0, .int 6]) (rest := []) S hK hE hst hP hS (cw_X9_126 ht ⟨Nat.le_of_ble_eq_true rfl, Nat.le_of_ble_eq_true rfl⟩) rfl hl.1 rfl (Nat.le_of_ble_eq_true rfl) dX9_isUnkind_3 z2 (fun _ _ h => c_X9_isOfKind hG  h) hf (fun x1 M H locs hP hS bx1 hf => ?_)
  exact hret _ _ _ _ _ _ dX9_isUnkind_6 hP hS bx1 hf
theorem cw_X0_45 {R : Room} {s : State} {args : Array Value} (ht : ∀ w ∈ Tw, w.before args s = true) {A : Nat → Prop} {tC tA tP : Nat} {kK kV : Nat → Nat} (hE : E1 A tC tA tP kK kV s) (hR : rm_X9_isUnkind.frames + 1 ≤ R.frames ∧ 8 + (1 + 11) + rm_X9_isUnkind.locals ≤ R.locals) : va_CN R s args RX0 45 yX9_isUnkind "TwinTables" cX9_isUnkind 1 (some .boolean) (ws_of yX9_isUnkind cX9_isUnkind 1 (some .boolean)) rm_X9_isUnkind 0 0 1 ∧ (Cond.static yX9_isUnkind).before args s = true ∧ True := cw_SN 1 ht hE.2.2.2.2.2.2.2.1 k_830 k_63 k_831 (by decide +kernel) rfl rfl hR
def f_X0_unkind (o : Nat) (M : Mem) : Option (Int32 × Mem) :=
  it2 (fun rc3 (v1 : Int32) (v2 : Int32) M =>
    vv (M o 2) fun x4 =>
    if v2 < x4 then
      vv (grf G1 o 4) fun x5 =>
      ld M x5 v2 40 fun x6 =>
      bd (f_X9_isUnkind x6 M) fun x7 M =>
      if x7 = 0 then
        rc3 v1 (v2 + 1) M
      else
        rc3 (v1 + 1) (v2 + 1) M
    else
      some (v1, M)
  ) fuel 0 0 M
def rm_X0_unkind : Room := { frames := 4, cells := 0, slots := 0, locals := 85 }
set_option maxHeartbeats 4000000 in
set_option maxRecDepth 100000 in
theorem c_X0_unkind {l : Launch} {D : va_G} {K : Ks} {ad : Nat → Nat} {A : Nat → Prop} {tC tA tP : Nat} {kK kV : Nat → Nat} (hG : Gok G1 ad A) {o : Nat} (h0 : gcl G1 o = 0) {M : Mem} {r : Int32} {M' : Mem} (hf : f_X0_unkind o M = some (r, M')) : Ct l (E1 A tC tA tP kK kV) D K G1 ad A yX0_unkind (ws_of yX0_unkind cX0_unkind 3 (some .int)) rm_X0_unkind .int [.ref (ad o)] M r M' := by
  have hst : Est A (E1 A tC tA tP kK kV) := est1
  refine Ct.ofW (by decide) (Nat.le_of_ble_eq_true rfl) ?_
  intro p e s m args below meth c Q H locs ls S hK hE hP hS hl hret
  have hx := S.1
  have hb := S.2.1
  have hown := S.2.2.2.1
  have ht := S.2.2.2.2
  have hl : lv_has ls 3 [(0, .ref (ad o))] := hl
  unfold f_X0_unkind at hf
  refine lv_iconst (v := 0) hx hb dX0_unkind_0 (by decide) ?_
  refine lv_istore_n (lv' := [(1, .int 0), (0, .ref (ad o))]) hx hb dX0_unkind_1 rfl hl (by decide) rfl (fun ls hl => ?_)
  refine lv_iconst (v := 0) hx hb dX0_unkind_2 (by decide) ?_
  refine lv_istore_n (lv' := [(2, .int 0), (1, .int 0), (0, .ref (ad o))]) hx hb dX0_unkind_3 rfl hl (by decide) rfl (fun ls hl => ?_)
  obtain ⟨F3, hF3, hf⟩ := it2_g hf
  have L3 : ∀ (n : Nat) (v1 : Int32) (v2 : Int32) (M : Mem) (H : Heap) (locs : List Loc) (ls : Array Slot), lv_has ls 3 [(0, .ref (ad o)), (1, .int v1), (2, .int v2)] → va_P D classes (gws K G1 ad M) H → va_S A s.heap H locs → it2 F3 n v1 v2 M = some (r, M') → W p l e rm_X0_unkind s m args below meth c H locs 0 0 Q (F0 m 4 ls []) := by
    intro n
    induction n with
    | zero => intro v1 v2 M H locs ls hl hP hS hf; exact nomatch hf
    | succ n ih3 =>
      intro v1 v2 M H locs ls hl hP hS hf
      obtain ⟨rc3, hrc3, hf⟩ := it2_w hf
      rw [← hrc3] at ih3
      rw [hF3] at hf
      refine lv_iload_n hx hb dX0_unkind_4 rfl (lv_at hl 2 rfl) ?_
      refine lv_aload_n hx hb dX0_unkind_5 rfl (lv_at hl 0 rfl) ?_
      refine gf_X0_40 S hK hP h0 dX0_unkind_6 hf (fun x4 hf => ?_)
      refine r_icmp_ge (tgt := 33) S dX0_unkind_9 (by decide) hf (fun hf => ?_) (fun hf => ?_)
      · refine lv_iload_n hx hb dX0_unkind_33 rfl (lv_at hl 1 rfl) ?_
        exact hret _ _ _ _ _ _ dX0_unkind_34 hP hS rfl hf
      · refine lv_aload_n hx hb dX0_unkind_12 rfl (lv_at hl 0 rfl) ?_
        refine gf_X0_18 S hK hP h0 dX0_unkind_13 hf (fun x5 hx5 hf => ?_)
        refine lv_iload_n hx hb dX0_unkind_16 rfl (lv_at hl 2 rfl) ?_
        refine r_iald S hK hP hx5 dX0_unkind_17 hf (fun x6 hf => ?_)
        refine r_callSN (As := [.int x6]) (rest := []) S hK hE hst hP hS (cw_X0_45 ht hE ⟨Nat.le_of_ble_eq_true rfl, Nat.le_of_ble_eq_true rfl⟩) rfl hl.1 rfl (Nat.le_of_ble_eq_true rfl) dX0_unkind_18 z2 (fun _ _ h => c_X9_isUnkind hG  h) hf (fun x7 M H locs hP hS bx7 hf => ?_)
        refine r_if_eq (tgt := 27) S dX0_unkind_21 (by decide) hf (fun hf => ?_) (fun hf => ?_)
        · refine lv_iinc (v := (v2 + 1)) (lv' := [(2, .int (v2 + 1)), (0, .ref (ad o)), (1, .int v1)]) hx hb dX0_unkind_27 hl (k := 2) rfl rfl (by decide) rfl (fun ls hl => ?_)
          refine lv_goto (tgt := 4) hx hb dX0_unkind_30 (by decide) ?_
          exact ih3 v1 (v2 + 1) M H locs ls (lv_sub hl [1, 2, 0] rfl) hP hS hf
        · refine lv_iinc (v := (v1 + 1)) (lv' := [(1, .int (v1 + 1)), (0, .ref (ad o)), (2, .int v2)]) hx hb dX0_unkind_24 hl (k := 1) rfl rfl (by decide) rfl (fun ls hl => ?_)
          refine lv_iinc (v := (v2 + 1)) (lv' := [(2, .int (v2 + 1)), (1, .int (v1 + 1)), (0, .ref (ad o))]) hx hb dX0_unkind_27 hl (k := 2) rfl rfl (by decide) rfl (fun ls hl => ?_)
          refine lv_goto (tgt := 4) hx hb dX0_unkind_30 (by decide) ?_
          exact ih3 (v1 + 1) (v2 + 1) M H locs ls (lv_sub hl [2, 1, 0] rfl) hP hS hf
  exact L3 _ 0 0 M H locs ls (lv_sub hl [2, 1, 0] rfl) hP hS hf
section
variable {p : Program} {l : Launch} {e : Env} {R : Room} {s : State} {m : MethodId} {args : Array Value} {below : List Frame} {meth : Method} {c : Code} {H : Heap} {locs : List Loc} {cells slots : Nat} {Q : State → Prop} {cc : ByteArray} {pc : Nat} {ls : Array Slot} {rest : List Value} {nL : Nat} {D : va_G} {K : Ks} {ad : Nat → Nat} {A : Nat → Prop} {M : Mem} {β : Type} {z : β}
theorem gf_X1_15 (S : CallFix p m c cc nL s args Tw RX1) (hK : va_K D classes (gty K) s) (hP : va_P D classes (gws K G1 ad M) H) {a : Nat} {kk : Nat → Option β} (ha : gcl G1 a = 1) (hdg : decode cc pc = .ok (.getfield 15, 3)) (hf : vv (grf G1 a 2) kk = some z) (w : ∀ b, gcl G1 b = 20 ∧ gsz G1 b = 16 → kk b = some z → W p l e R s m args below meth c H locs cells slots Q (F0 m (pc + 3) ls (.ref (ad b) :: rest))) : W p l e R s m args below meth c H locs cells slots Q (F0 m pc ls (.ref (ad a) :: rest)) := r_getr S hK hP (T := TX1) inX1 rfl (by decide) (by decide) ha (sf_X1_2 ha).1 k_218 hdg hf (fun b e => w b (by rw [e]; exact (sf_X1_2 ha).2))
end
section
variable {p : Program} {l : Launch} {e : Env} {R : Room} {s : State} {m : MethodId} {args : Array Value} {below : List Frame} {meth : Method} {c : Code} {H : Heap} {locs : List Loc} {cells slots : Nat} {Q : State → Prop} {cc : ByteArray} {pc : Nat} {ls : Array Slot} {rest : List Value} {nL : Nat} {D : va_G} {K : Ks} {ad : Nat → Nat} {A : Nat → Prop} {M : Mem} {β : Type} {z : β}
theorem gf_X1_18 (S : CallFix p m c cc nL s args Tw RX1) (hK : va_K D classes (gty K) s) (hP : va_P D classes (gws K G1 ad M) H) {a : Nat} {kk : Nat → Option β} (ha : gcl G1 a = 1) (hdg : decode cc pc = .ok (.getfield 18, 3)) (hf : vv (grf G1 a 3) kk = some z) (w : ∀ b, gcl G1 b = 20 ∧ gsz G1 b = 16 → kk b = some z → W p l e R s m args below meth c H locs cells slots Q (F0 m (pc + 3) ls (.ref (ad b) :: rest))) : W p l e R s m args below meth c H locs cells slots Q (F0 m pc ls (.ref (ad a) :: rest)) := r_getr S hK hP (T := TX1) inX1 rfl (by decide) (by decide) ha (sf_X1_3 ha).1 k_219 hdg hf (fun b e => w b (by rw [e]; exact (sf_X1_3 ha).2))
end
section
variable {p : Program} {l : Launch} {e : Env} {R : Room} {s : State} {m : MethodId} {args : Array Value} {below : List Frame} {meth : Method} {c : Code} {H : Heap} {locs : List Loc} {cells slots : Nat} {Q : State → Prop} {cc : ByteArray} {pc : Nat} {ls : Array Slot} {rest : List Value} {nL : Nat} {D : va_G} {K : Ks} {ad : Nat → Nat} {A : Nat → Prop} {M : Mem} {β : Type} {z : β}
theorem gf_X1_21 (S : CallFix p m c cc nL s args Tw RX1) (hK : va_K D classes (gty K) s) (hP : va_P D classes (gws K G1 ad M) H) {a : Nat} {kk : Nat → Option β} (ha : gcl G1 a = 1) (hdg : decode cc pc = .ok (.getfield 21, 3)) (hf : vv (grf G1 a 5) kk = some z) (w : ∀ b, gcl G1 b = 20 ∧ gsz G1 b = 8 → kk b = some z → W p l e R s m args below meth c H locs cells slots Q (F0 m (pc + 3) ls (.ref (ad b) :: rest))) : W p l e R s m args below meth c H locs cells slots Q (F0 m pc ls (.ref (ad a) :: rest)) := r_getr S hK hP (T := TX1) inX1 rfl (by decide) (by decide) ha (sf_X1_5 ha).1 k_222 hdg hf (fun b e => w b (by rw [e]; exact (sf_X1_5 ha).2))
end
section
variable {p : Program} {l : Launch} {e : Env} {R : Room} {s : State} {m : MethodId} {args : Array Value} {below : List Frame} {meth : Method} {c : Code} {H : Heap} {locs : List Loc} {cells slots : Nat} {Q : State → Prop} {cc : ByteArray} {pc : Nat} {ls : Array Slot} {rest : List Value} {nL : Nat} {D : va_G} {K : Ks} {ad : Nat → Nat} {A : Nat → Prop} {M : Mem} {β : Type} {z : β}
theorem gf_X1_24 (S : CallFix p m c cc nL s args Tw RX1) (hK : va_K D classes (gty K) s) (hP : va_P D classes (gws K G1 ad M) H) {a : Nat} {kk : Int32 → Option β} (ha : gcl G1 a = 1) (hdg : decode cc pc = .ok (.getfield 24, 3)) (hf : vv (M a 0) kk = some z) (w : ∀ x, kk x = some z → W p l e R s m args below meth c H locs cells slots Q (F0 m (pc + 3) ls (.int x :: rest))) : W p l e R s m args below meth c H locs cells slots Q (F0 m pc ls (.ref (ad a) :: rest)) := r_geti S hK hP (T := TX1) inX1 rfl (by decide) (by decide) ha (sf_X1_0 ha) k_215 hdg hf w
end
section
variable {p : Program} {l : Launch} {e : Env} {R : Room} {s : State} {m : MethodId} {args : Array Value} {below : List Frame} {meth : Method} {c : Code} {H : Heap} {locs : List Loc} {cells slots : Nat} {Q : State → Prop} {cc : ByteArray} {pc : Nat} {ls : Array Slot} {rest : List Value} {nL : Nat} {D : va_G} {K : Ks} {ad : Nat → Nat} {A : Nat → Prop} {M : Mem} {β : Type} {z : β}
theorem gf_X1_34 (S : CallFix p m c cc nL s args Tw RX1) (hK : va_K D classes (gty K) s) (hP : va_P D classes (gws K G1 ad M) H) {a : Nat} {kk : Int32 → Option β} (ha : gcl G1 a = 1) (hdg : decode cc pc = .ok (.getfield 34, 3)) (hf : vv (M a 4) kk = some z) (w : ∀ x, kk x = some z → W p l e R s m args below meth c H locs cells slots Q (F0 m (pc + 3) ls (.int x :: rest))) : W p l e R s m args below meth c H locs cells slots Q (F0 m pc ls (.ref (ad a) :: rest)) := r_geti S hK hP (T := TX1) inX1 rfl (by decide) (by decide) ha (sf_X1_4 ha) k_220 hdg hf w
end
section
variable {p : Program} {l : Launch} {e : Env} {R : Room} {s : State} {m : MethodId} {args : Array Value} {below : List Frame} {meth : Method} {c : Code} {H : Heap} {locs : List Loc} {cells slots : Nat} {Q : State → Prop} {cc : ByteArray} {pc : Nat} {ls : Array Slot} {rest : List Value} {nL : Nat} {D : va_G} {K : Ks} {ad : Nat → Nat} {A : Nat → Prop} {M : Mem} {β : Type} {z : β}
theorem gf_X1_9 (S : CallFix p m c cc nL s args Tw RX1) (hK : va_K D classes (gty K) s) (hP : va_P D classes (gws K G1 ad M) H) {a : Nat} {kk : Nat → Option β} (ha : gcl G1 a = 1) (hdg : decode cc pc = .ok (.getfield 9, 3)) (hf : vv (grf G1 a 1) kk = some z) (w : ∀ b, gcl G1 b = 20 ∧ gsz G1 b = 16 → kk b = some z → W p l e R s m args below meth c H locs cells slots Q (F0 m (pc + 3) ls (.ref (ad b) :: rest))) : W p l e R s m args below meth c H locs cells slots Q (F0 m pc ls (.ref (ad a) :: rest)) := r_getr S hK hP (T := TX1) inX1 rfl (by decide) (by decide) ha (sf_X1_1 ha).1 k_217 hdg hf (fun b e => w b (by rw [e]; exact (sf_X1_1 ha).2))
end
section
variable {p : Program} {l : Launch} {e : Env} {R : Room} {s : State} {m : MethodId} {args : Array Value} {below : List Frame} {meth : Method} {c : Code} {H : Heap} {locs : List Loc} {cells slots : Nat} {Q : State → Prop} {cc : ByteArray} {pc : Nat} {ls : Array Slot} {rest : List Value} {nL : Nat} {D : va_G} {K : Ks} {ad : Nat → Nat} {A : Nat → Prop} {M : Mem} {β : Type} {z : β}
theorem pf_X1_24 (S : CallFix p m c cc nL s args Tw RX1) (hK : va_K D classes (gty K) s) (hG : Gok G1 ad A) (hP : va_P D classes (gws K G1 ad M) H) (hS : va_S A s.heap H locs) {a : Nat} {v : Int32} {kk : Mem → Option β} (ha : gcl G1 a = 1) (hdg : decode cc pc = .ok (.putfield 24, 3)) (hf : mm (up M a 0 v) kk = some z) (w : ∀ M H locs, va_P D classes (gws K G1 ad M) H → va_S A s.heap H locs → kk M = some z → W p l e R s m args below meth c H locs cells slots Q (F0 m (pc + 3) ls rest)) : W p l e R s m args below meth c H locs cells slots Q (F0 m pc ls (.int v :: .ref (ad a) :: rest)) := r_putt S hK hG hP hS (k := 0) (T := TX1) inX1 rfl (by decide) tyX1 tyX1_ok nmX1 (by decide) rfl rfl rfl ha (sf_X1_0 ha) k_215 hdg hf w
end
section
variable {p : Program} {l : Launch} {e : Env} {R : Room} {s : State} {m : MethodId} {args : Array Value} {below : List Frame} {meth : Method} {c : Code} {H : Heap} {locs : List Loc} {cells slots : Nat} {Q : State → Prop} {cc : ByteArray} {pc : Nat} {ls : Array Slot} {rest : List Value} {nL : Nat} {D : va_G} {K : Ks} {ad : Nat → Nat} {A : Nat → Prop} {M : Mem} {β : Type} {z : β}
theorem pf_X1_34 (S : CallFix p m c cc nL s args Tw RX1) (hK : va_K D classes (gty K) s) (hG : Gok G1 ad A) (hP : va_P D classes (gws K G1 ad M) H) (hS : va_S A s.heap H locs) {a : Nat} {v : Int32} {kk : Mem → Option β} (ha : gcl G1 a = 1) (hdg : decode cc pc = .ok (.putfield 34, 3)) (hf : mm (up M a 4 v) kk = some z) (w : ∀ M H locs, va_P D classes (gws K G1 ad M) H → va_S A s.heap H locs → kk M = some z → W p l e R s m args below meth c H locs cells slots Q (F0 m (pc + 3) ls rest)) : W p l e R s m args below meth c H locs cells slots Q (F0 m pc ls (.int v :: .ref (ad a) :: rest)) := r_putt S hK hG hP hS (k := 4) (T := TX1) inX1 rfl (by decide) tyX1 tyX1_ok nmX1 (by decide) rfl rfl rfl ha (sf_X1_4 ha) k_220 hdg hf w
end
def f_X1_become (o : Nat) (p1 : Nat) (M : Mem) : Option (Int32 × Mem) :=
  vv (M p1 0) fun x1 =>
  mm (up M o 0 x1) fun M =>
  vv (grf G1 p1 1) fun x2 =>
  vv (grf G1 o 1) fun x3 =>
  cy M x2 0 16 x3 0 16 16 fun M =>
  vv (grf G1 p1 2) fun x4 =>
  vv (grf G1 o 2) fun x5 =>
  cy M x4 0 16 x5 0 16 16 fun M =>
  vv (grf G1 p1 3) fun x6 =>
  vv (grf G1 o 3) fun x7 =>
  cy M x6 0 16 x7 0 16 16 fun M =>
  vv (M p1 4) fun x8 =>
  mm (up M o 4 x8) fun M =>
  vv (grf G1 p1 5) fun x9 =>
  vv (grf G1 o 5) fun x10 =>
  cy M x9 0 8 x10 0 8 8 fun M =>
  some (0, M)
def rm_X1_become : Room := { frames := 1, cells := 0, slots := 0, locals := 60 }
set_option maxHeartbeats 4000000 in
set_option maxRecDepth 100000 in
theorem c_X1_become {l : Launch} {D : va_G} {K : Ks} {ad : Nat → Nat} {A : Nat → Prop} {tC tA tP : Nat} {kK kV : Nat → Nat} (hG : Gok G1 ad A) {o : Nat} {p1 : Nat} (h0 : gcl G1 o = 1) (h1 : gcl G1 p1 = 1) {M : Mem} {r : Int32} {M' : Mem} (hf : f_X1_become o p1 M = some (r, M')) : Cv l (E1 A tC tA tP kK kV) D K G1 ad A yX1_become (ws_of yX1_become cX1_become 2 none) rm_X1_become [.ref (ad o), .ref (ad p1)] M M' := by
  have hst : Est A (E1 A tC tA tP kK kV) := est1
  refine Cv.ofW (r := r) (by decide) (Nat.le_of_ble_eq_true rfl) ?_
  intro p e s m args below meth c Q H locs ls S hK hE hP hS hl hret
  have hx := S.1
  have hb := S.2.1
  have hown := S.2.2.2.1
  have ht := S.2.2.2.2
  have hl : lv_has ls 2 [(0, .ref (ad o)), (1, .ref (ad p1))] := hl
  unfold f_X1_become at hf
  refine lv_aload_n hx hb dX1_become_0 rfl (lv_at hl 0 rfl) ?_
  refine lv_aload_n hx hb dX1_become_1 rfl (lv_at hl 1 rfl) ?_
  refine gf_X1_24 S hK hP h1 dX1_become_2 hf (fun x1 hf => ?_)
  refine pf_X1_24 S hK hG hP hS h0 dX1_become_5 hf (fun M H locs hP hS hf => ?_)
  refine lv_aload_n hx hb dX1_become_8 rfl (lv_at hl 1 rfl) ?_
  refine gf_X1_9 S hK hP h1 dX1_become_9 hf (fun x2 hx2 hf => ?_)
  refine lv_iconst (v := 0) hx hb dX1_become_12 (by decide) ?_
  refine lv_aload_n hx hb dX1_become_13 rfl (lv_at hl 0 rfl) ?_
  refine gf_X1_9 S hK hP h0 dX1_become_14 hf (fun x3 hx3 hf => ?_)
  refine lv_iconst (v := 0) hx hb dX1_become_17 (by decide) ?_
  refine lv_bipush (v := 16) hx hb dX1_become_18 (by decide) ?_
  refine r_copy S hK hG hP hS hx2 hx3 k_1081 k_729 k_728 k_80 hl.1 (Nat.le_of_ble_eq_true rfl) (Nat.le_of_ble_eq_true rfl) dX1_become_20 hf (fun M H locs hP hS hf => ?_)
  refine lv_aload_n hx hb dX1_become_23 rfl (lv_at hl 1 rfl) ?_
  refine gf_X1_15 S hK hP h1 dX1_become_24 hf (fun x4 hx4 hf => ?_)
  refine lv_iconst (v := 0) hx hb dX1_become_27 (by decide) ?_
  refine lv_aload_n hx hb dX1_become_28 rfl (lv_at hl 0 rfl) ?_
  refine gf_X1_15 S hK hP h0 dX1_become_29 hf (fun x5 hx5 hf => ?_)
  refine lv_iconst (v := 0) hx hb dX1_become_32 (by decide) ?_
  refine lv_bipush (v := 16) hx hb dX1_become_33 (by decide) ?_
  refine r_copy S hK hG hP hS hx4 hx5 k_1081 k_729 k_728 k_80 hl.1 (Nat.le_of_ble_eq_true rfl) (Nat.le_of_ble_eq_true rfl) dX1_become_35 hf (fun M H locs hP hS hf => ?_)
  refine lv_aload_n hx hb dX1_become_38 rfl (lv_at hl 1 rfl) ?_
  refine gf_X1_18 S hK hP h1 dX1_become_39 hf (fun x6 hx6 hf => ?_)
  refine lv_iconst (v := 0) hx hb dX1_become_42 (by decide) ?_
  refine lv_aload_n hx hb dX1_become_43 rfl (lv_at hl 0 rfl) ?_
  refine gf_X1_18 S hK hP h0 dX1_become_44 hf (fun x7 hx7 hf => ?_)
  refine lv_iconst (v := 0) hx hb dX1_become_47 (by decide) ?_
  refine lv_bipush (v := 16) hx hb dX1_become_48 (by decide) ?_
  refine r_copy S hK hG hP hS hx6 hx7 k_1081 k_729 k_728 k_80 hl.1 (Nat.le_of_ble_eq_true rfl) (Nat.le_of_ble_eq_true rfl) dX1_become_50 hf (fun M H locs hP hS hf => ?_)
  refine lv_aload_n hx hb dX1_become_53 rfl (lv_at hl 0 rfl) ?_
  refine lv_aload_n hx hb dX1_become_54 rfl (lv_at hl 1 rfl) ?_
  refine gf_X1_34 S hK hP h1 dX1_become_55 hf (fun x8 hf => ?_)
  refine pf_X1_34 S hK hG hP hS h0 dX1_become_58 hf (fun M H locs hP hS hf => ?_)
  refine lv_aload_n hx hb dX1_become_61 rfl (lv_at hl 1 rfl) ?_
  refine gf_X1_21 S hK hP h1 dX1_become_62 hf (fun x9 hx9 hf => ?_)
  refine lv_iconst (v := 0) hx hb dX1_become_65 (by decide) ?_
  refine lv_aload_n hx hb dX1_become_66 rfl (lv_at hl 0 rfl) ?_
  refine gf_X1_21 S hK hP h0 dX1_become_67 hf (fun x10 hx10 hf => ?_)
  refine lv_iconst (v := 0) hx hb dX1_become_70 (by decide) ?_
  refine lv_bipush (v := 8) hx hb dX1_become_71 (by decide) ?_
  refine r_copy S hK hG hP hS hx9 hx10 k_1081 k_729 k_728 k_80 hl.1 (Nat.le_of_ble_eq_true rfl) (Nat.le_of_ble_eq_true rfl) dX1_become_73 hf (fun M H locs hP hS hf => ?_)
  exact hret _ _ _ _ _ _ dX1_become_76 hP hS hf
def f_X1_addLeaner (o : Nat) (p1 : Int32) (p2 : Int32) (p3 : Int32) (M : Mem) : Option (Int32 × Mem) :=
  vv (M o 0) fun x1 =>
  if x1 < 16 then
    vv (grf G1 o 1) fun x2 =>
    vv (M o 0) fun x3 =>
    st M x2 x3 16 p1 fun M =>
    vv (grf G1 o 2) fun x4 =>
    vv (M o 0) fun x5 =>
    st M x4 x5 16 p2 fun M =>
    vv (grf G1 o 3) fun x6 =>
    vv (M o 0) fun x7 =>
    st M x6 x7 16 p3 fun M =>
    vv (M o 0) fun x8 =>
    mm (up M o 0 (x8 + 1)) fun M =>
    vv (M o 0) fun x9 =>
    some ((x9 - 1), M)
  else
    some ((-1000000003), M)
def rm_X1_addLeaner : Room := { frames := 0, cells := 0, slots := 0, locals := 0 }
set_option maxHeartbeats 4000000 in
set_option maxRecDepth 100000 in
theorem c_X1_addLeaner {l : Launch} {D : va_G} {K : Ks} {ad : Nat → Nat} {A : Nat → Prop} {tC tA tP : Nat} {kK kV : Nat → Nat} (hG : Gok G1 ad A) {o : Nat} {p1 : Int32} {p2 : Int32} {p3 : Int32} (h0 : gcl G1 o = 1) {M : Mem} {r : Int32} {M' : Mem} (hf : f_X1_addLeaner o p1 p2 p3 M = some (r, M')) : Ct l (E1 A tC tA tP kK kV) D K G1 ad A yX1_addLeaner (ws_of yX1_addLeaner cX1_addLeaner 4 (some .int)) rm_X1_addLeaner .int [.ref (ad o), .int p1, .int p2, .int p3] M r M' := by
  have hst : Est A (E1 A tC tA tP kK kV) := est1
  refine Ct.ofW (by decide) (Nat.le_of_ble_eq_true rfl) ?_
  intro p e s m args below meth c Q H locs ls S hK hE hP hS hl hret
  have hx := S.1
  have hb := S.2.1
  have hown := S.2.2.2.1
  have ht := S.2.2.2.2
  have hl : lv_has ls 4 [(0, .ref (ad o)), (1, .int p1), (2, .int p2), (3, .int p3)] := hl
  unfold f_X1_addLeaner at hf
  refine lv_aload_n hx hb dX1_addLeaner_0 rfl (lv_at hl 0 rfl) ?_
  refine gf_X1_24 S hK hP h0 dX1_addLeaner_1 hf (fun x1 hf => ?_)
  refine lv_bipush (v := 16) hx hb dX1_addLeaner_4 (by decide) ?_
  refine r_icmp_lt (tgt := 12) S dX1_addLeaner_6 (by decide) hf (fun hf => ?_) (fun hf => ?_)
  · refine lv_aload_n hx hb dX1_addLeaner_12 rfl (lv_at hl 0 rfl) ?_
    refine gf_X1_9 S hK hP h0 dX1_addLeaner_13 hf (fun x2 hx2 hf => ?_)
    refine lv_aload_n hx hb dX1_addLeaner_16 rfl (lv_at hl 0 rfl) ?_
    refine gf_X1_24 S hK hP h0 dX1_addLeaner_17 hf (fun x3 hf => ?_)
    refine lv_iload_n hx hb dX1_addLeaner_20 rfl (lv_at hl 1 rfl) ?_
    refine r_iast S hK hG hP hS hx2 dX1_addLeaner_21 hf (fun M H locs hP hS hf => ?_)
    refine lv_aload_n hx hb dX1_addLeaner_22 rfl (lv_at hl 0 rfl) ?_
    refine gf_X1_15 S hK hP h0 dX1_addLeaner_23 hf (fun x4 hx4 hf => ?_)
    refine lv_aload_n hx hb dX1_addLeaner_26 rfl (lv_at hl 0 rfl) ?_
    refine gf_X1_24 S hK hP h0 dX1_addLeaner_27 hf (fun x5 hf => ?_)
    refine lv_iload_n hx hb dX1_addLeaner_30 rfl (lv_at hl 2 rfl) ?_
    refine r_iast S hK hG hP hS hx4 dX1_addLeaner_31 hf (fun M H locs hP hS hf => ?_)
    refine lv_aload_n hx hb dX1_addLeaner_32 rfl (lv_at hl 0 rfl) ?_
    refine gf_X1_18 S hK hP h0 dX1_addLeaner_33 hf (fun x6 hx6 hf => ?_)
    refine lv_aload_n hx hb dX1_addLeaner_36 rfl (lv_at hl 0 rfl) ?_
    refine gf_X1_24 S hK hP h0 dX1_addLeaner_37 hf (fun x7 hf => ?_)
    refine lv_iload_n hx hb dX1_addLeaner_40 rfl (lv_at hl 3 rfl) ?_
    refine r_iast S hK hG hP hS hx6 dX1_addLeaner_41 hf (fun M H locs hP hS hf => ?_)
    refine lv_aload_n hx hb dX1_addLeaner_42 rfl (lv_at hl 0 rfl) ?_
    refine lv_dup hx hb dX1_addLeaner_43 rfl ?_
    refine gf_X1_24 S hK hP h0 dX1_addLeaner_44 hf (fun x8 hf => ?_)
    refine lv_iconst (v := 1) hx hb dX1_addLeaner_47 (by decide) ?_
    refine lv_iadd hx hb dX1_addLeaner_48 ?_
    refine pf_X1_24 S hK hG hP hS h0 dX1_addLeaner_49 hf (fun M H locs hP hS hf => ?_)
    refine lv_aload_n hx hb dX1_addLeaner_52 rfl (lv_at hl 0 rfl) ?_
    refine gf_X1_24 S hK hP h0 dX1_addLeaner_53 hf (fun x9 hf => ?_)
    refine lv_iconst (v := 1) hx hb dX1_addLeaner_56 (by decide) ?_
    refine lv_isub hx hb dX1_addLeaner_57 ?_
    exact hret _ _ _ _ _ _ dX1_addLeaner_58 hP hS rfl hf
  · refine lv_ldc (v := (-1000000003)) hx hb hown (ht _ k_896) dX1_addLeaner_9 ?_
    exact hret _ _ _ _ _ _ dX1_addLeaner_11 hP hS rfl hf
def f_J6_bitCount_0f7a4 (p0 : Int32) (M : Mem) : Option (Int32 × Mem) :=
  vv (p0 - ((js p0 1) &&& 1431655765)) fun x1 =>
  vv ((x1 &&& 858993459) + ((js x1 2) &&& 858993459)) fun x2 =>
  vv ((x2 + (js x2 4)) &&& 252645135) fun x3 =>
  vv (x3 + (js x3 8)) fun x4 =>
  vv (x4 + (js x4 16)) fun x5 =>
  some ((x5 &&& 63), M)
def rm_J6_bitCount_0f7a4 : Room := { frames := 0, cells := 0, slots := 0, locals := 0 }
set_option maxHeartbeats 4000000 in
set_option maxRecDepth 100000 in
theorem c_J6_bitCount_0f7a4 {l : Launch} {D : va_G} {K : Ks} {ad : Nat → Nat} {A : Nat → Prop} {tC tA tP : Nat} {kK kV : Nat → Nat} (hG : Gok G1 ad A) {p0 : Int32}  {M : Mem} {r : Int32} {M' : Mem} (hf : f_J6_bitCount_0f7a4 p0 M = some (r, M')) : Ct l (E1 A tC tA tP kK kV) D K G1 ad A yJ6_bitCount_0f7a4 (ws_of yJ6_bitCount_0f7a4 cJ6_bitCount_0f7a4 1 (some .int)) rm_J6_bitCount_0f7a4 .int [.int p0] M r M' := by
  have hst : Est A (E1 A tC tA tP kK kV) := est1
  refine Ct.ofW (by decide) (Nat.le_of_ble_eq_true rfl) ?_
  intro p e s m args below meth c Q H locs ls S hK hE hP hS hl hret
  have hx := S.1
  have hb := S.2.1
  have hown := S.2.2.2.1
  have ht := S.2.2.2.2
  have hl : lv_has ls 1 [(0, .int p0)] := hl
  unfold f_J6_bitCount_0f7a4 at hf
  refine lv_iload_n hx hb dJ6_bitCount_0f7a4_0 rfl (lv_at hl 0 rfl) ?_
  refine lv_iload_n hx hb dJ6_bitCount_0f7a4_1 rfl (lv_at hl 0 rfl) ?_
  refine lv_iconst (v := 1) hx hb dJ6_bitCount_0f7a4_2 (by decide) ?_
  refine lv_iushr (v := (js p0 1)) hx hb dJ6_bitCount_0f7a4_3 rfl ?_
  refine lv_ldcw (v := 1431655765) hx hb hown (ht _ k_908) dJ6_bitCount_0f7a4_4 ?_
  refine lv_iand hx hb dJ6_bitCount_0f7a4_7 ?_
  refine lv_isub hx hb dJ6_bitCount_0f7a4_8 ?_
  refine r_vi hf (fun x1 hf => ?_)
  refine lv_istore_n (lv' := [(0, .int x1)]) hx hb dJ6_bitCount_0f7a4_9 rfl hl (by decide) rfl (fun ls hl => ?_)
  refine lv_iload_n hx hb dJ6_bitCount_0f7a4_10 rfl (lv_at hl 0 rfl) ?_
  refine lv_ldcw (v := 858993459) hx hb hown (ht _ k_909) dJ6_bitCount_0f7a4_11 ?_
  refine lv_iand hx hb dJ6_bitCount_0f7a4_14 ?_
  refine lv_iload_n hx hb dJ6_bitCount_0f7a4_15 rfl (lv_at hl 0 rfl) ?_
  refine lv_iconst (v := 2) hx hb dJ6_bitCount_0f7a4_16 (by decide) ?_
  refine lv_iushr (v := (js x1 2)) hx hb dJ6_bitCount_0f7a4_17 rfl ?_
  refine lv_ldcw (v := 858993459) hx hb hown (ht _ k_909) dJ6_bitCount_0f7a4_18 ?_
  refine lv_iand hx hb dJ6_bitCount_0f7a4_21 ?_
  refine lv_iadd hx hb dJ6_bitCount_0f7a4_22 ?_
  refine r_vi hf (fun x2 hf => ?_)
  refine lv_istore_n (lv' := [(0, .int x2)]) hx hb dJ6_bitCount_0f7a4_23 rfl hl (by decide) rfl (fun ls hl => ?_)
  refine lv_iload_n hx hb dJ6_bitCount_0f7a4_24 rfl (lv_at hl 0 rfl) ?_
  refine lv_iload_n hx hb dJ6_bitCount_0f7a4_25 rfl (lv_at hl 0 rfl) ?_
  refine lv_iconst (v := 4) hx hb dJ6_bitCount_0f7a4_26 (by decide) ?_
  refine lv_iushr (v := (js x2 4)) hx hb dJ6_bitCount_0f7a4_27 rfl ?_
  refine lv_iadd hx hb dJ6_bitCount_0f7a4_28 ?_
  refine lv_ldcw (v := 252645135) hx hb hown (ht _ k_910) dJ6_bitCount_0f7a4_29 ?_
  refine lv_iand hx hb dJ6_bitCount_0f7a4_32 ?_
  refine r_vi hf (fun x3 hf => ?_)
  refine lv_istore_n (lv' := [(0, .int x3)]) hx hb dJ6_bitCount_0f7a4_33 rfl hl (by decide) rfl (fun ls hl => ?_)
  refine lv_iload_n hx hb dJ6_bitCount_0f7a4_34 rfl (lv_at hl 0 rfl) ?_
  refine lv_iload_n hx hb dJ6_bitCount_0f7a4_35 rfl (lv_at hl 0 rfl) ?_
  refine lv_bipush (v := 8) hx hb dJ6_bitCount_0f7a4_36 (by decide) ?_
  refine lv_iushr (v := (js x3 8)) hx hb dJ6_bitCount_0f7a4_38 rfl ?_
  refine lv_iadd hx hb dJ6_bitCount_0f7a4_39 ?_
  refine r_vi hf (fun x4 hf => ?_)
  refine lv_istore_n (lv' := [(0, .int x4)]) hx hb dJ6_bitCount_0f7a4_40 rfl hl (by decide) rfl (fun ls hl => ?_)
  refine lv_iload_n hx hb dJ6_bitCount_0f7a4_41 rfl (lv_at hl 0 rfl) ?_
  refine lv_iload_n hx hb dJ6_bitCount_0f7a4_42 rfl (lv_at hl 0 rfl) ?_
  refine lv_bipush (v := 16) hx hb dJ6_bitCount_0f7a4_43 (by decide) ?_
  refine lv_iushr (v := (js x4 16)) hx hb dJ6_bitCount_0f7a4_45 rfl ?_
  refine lv_iadd hx hb dJ6_bitCount_0f7a4_46 ?_
  refine r_vi hf (fun x5 hf => ?_)
  refine lv_istore_n (lv' := [(0, .int x5)]) hx hb dJ6_bitCount_0f7a4_47 rfl hl (by decide) rfl (fun ls hl => ?_)
  refine lv_iload_n hx hb dJ6_bitCount_0f7a4_48 rfl (lv_at hl 0 rfl) ?_
  refine lv_bipush (v := 63) hx hb dJ6_bitCount_0f7a4_49 (by decide) ?_
  refine lv_iand hx hb dJ6_bitCount_0f7a4_51 ?_
  exact hret _ _ _ _ _ _ dJ6_bitCount_0f7a4_52 hP hS rfl hf
theorem cw_X1_38 {R : Room} {s : State} {args : Array Value} (ht : ∀ w ∈ Tw, w.before args s = true) (hR : rm_J6_bitCount_0f7a4.frames + 1 ≤ R.frames ∧ 8 + (1 + 11) + rm_J6_bitCount_0f7a4.locals ≤ R.locals) : CallB R s args RX1 38 yJ6_bitCount_0f7a4 cJ6_bitCount_0f7a4 1 (some .int) (ws_of yJ6_bitCount_0f7a4 cJ6_bitCount_0f7a4 1 (some .int)) rm_J6_bitCount_0f7a4 0 0 1 ∧ (Cond.static yJ6_bitCount_0f7a4).before args s = true := cw_S 1 ht k_905 k_906 k_81 k_907 (by decide +kernel) rfl rfl hR
def f_X1_fallen (o : Nat) (p1 : Int32) (M : Mem) : Option (Int32 × Mem) :=
  it2 (fun rc3 (v1 : Int32) (v2 : Int32) M =>
    vv (M o 0) fun x4 =>
    if v2 < x4 then
      vv (grf G1 o 1) fun x5 =>
      ld M x5 v2 16 fun x6 =>
      bd (f_J6_bitCount_0f7a4 (x6 &&& (p1 ^^^ (-1))) M) fun x7 M =>
      vv (grf G1 o 2) fun x8 =>
      ld M x8 v2 16 fun x9 =>
      bd (f_J6_bitCount_0f7a4 (x9 &&& (v1 ^^^ (-1))) M) fun x10 M =>
      vv (x7 + x10) fun x11 =>
      vv (grf G1 o 3) fun x12 =>
      ld M x12 v2 16 fun x13 =>
      if x11 < x13 then
        vv (v1 ||| ((1 : Int32) <<< (v2 &&& 31))) fun x14 =>
        rc3 x14 (v2 + 1) M
      else
        rc3 v1 (v2 + 1) M
    else
      some (v1, M)
  ) fuel 0 0 M
def rm_X1_fallen : Room := { frames := 1, cells := 0, slots := 0, locals := 20 }
set_option maxHeartbeats 4000000 in
set_option maxRecDepth 100000 in
theorem c_X1_fallen {l : Launch} {D : va_G} {K : Ks} {ad : Nat → Nat} {A : Nat → Prop} {tC tA tP : Nat} {kK kV : Nat → Nat} (hG : Gok G1 ad A) {o : Nat} {p1 : Int32} (h0 : gcl G1 o = 1) {M : Mem} {r : Int32} {M' : Mem} (hf : f_X1_fallen o p1 M = some (r, M')) : Ct l (E1 A tC tA tP kK kV) D K G1 ad A yX1_fallen (ws_of yX1_fallen cX1_fallen 5 (some .int)) rm_X1_fallen .int [.ref (ad o), .int p1] M r M' := by
  have hst : Est A (E1 A tC tA tP kK kV) := est1
  refine Ct.ofW (by decide) (Nat.le_of_ble_eq_true rfl) ?_
  intro p e s m args below meth c Q H locs ls S hK hE hP hS hl hret
  have hx := S.1
  have hb := S.2.1
  have hown := S.2.2.2.1
  have ht := S.2.2.2.2
  have hl : lv_has ls 5 [(0, .ref (ad o)), (1, .int p1)] := hl
  unfold f_X1_fallen at hf
  refine lv_iconst (v := 0) hx hb dX1_fallen_0 (by decide) ?_
  refine lv_istore_n (lv' := [(2, .int 0), (0, .ref (ad o)), (1, .int p1)]) hx hb dX1_fallen_1 rfl hl (by decide) rfl (fun ls hl => ?_)
  refine lv_iconst (v := 0) hx hb dX1_fallen_2 (by decide) ?_
  refine lv_istore_n (lv' := [(3, .int 0), (2, .int 0), (0, .ref (ad o)), (1, .int p1)]) hx hb dX1_fallen_3 rfl hl (by decide) rfl (fun ls hl => ?_)
  obtain ⟨F3, hF3, hf⟩ := it2_g hf
  have L3 : ∀ (n : Nat) (v1 : Int32) (v2 : Int32) (M : Mem) (H : Heap) (locs : List Loc) (ls : Array Slot), lv_has ls 5 [(0, .ref (ad o)), (1, .int p1), (2, .int v1), (3, .int v2)] → va_P D classes (gws K G1 ad M) H → va_S A s.heap H locs → it2 F3 n v1 v2 M = some (r, M') → W p l e rm_X1_fallen s m args below meth c H locs 0 0 Q (F0 m 4 ls []) := by
    intro n
    induction n with
    | zero => intro v1 v2 M H locs ls hl hP hS hf; exact nomatch hf
    | succ n ih3 =>
      intro v1 v2 M H locs ls hl hP hS hf
      obtain ⟨rc3, hrc3, hf⟩ := it2_w hf
      rw [← hrc3] at ih3
      rw [hF3] at hf
      refine lv_iload_n hx hb dX1_fallen_4 rfl (lv_at hl 3 rfl) ?_
      refine lv_aload_n hx hb dX1_fallen_5 rfl (lv_at hl 0 rfl) ?_
      refine gf_X1_24 S hK hP h0 dX1_fallen_6 hf (fun x4 hf => ?_)
      refine r_icmp_ge (tgt := 64) S dX1_fallen_9 (by decide) hf (fun hf => ?_) (fun hf => ?_)
      · refine lv_iload_n hx hb dX1_fallen_64 rfl (lv_at hl 2 rfl) ?_
        exact hret _ _ _ _ _ _ dX1_fallen_65 hP hS rfl hf
      · refine lv_aload_n hx hb dX1_fallen_12 rfl (lv_at hl 0 rfl) ?_
        refine gf_X1_9 S hK hP h0 dX1_fallen_13 hf (fun x5 hx5 hf => ?_)
        refine lv_iload_n hx hb dX1_fallen_16 rfl (lv_at hl 3 rfl) ?_
        refine r_iald S hK hP hx5 dX1_fallen_17 hf (fun x6 hf => ?_)
        refine lv_iload_n hx hb dX1_fallen_18 rfl (lv_at hl 1 rfl) ?_
        refine lv_iconst (v := (-1)) hx hb dX1_fallen_19 (by decide) ?_
        refine lv_ixor hx hb dX1_fallen_20 ?_
        refine lv_iand hx hb dX1_fallen_21 ?_
        refine r_callS (As := [.int (x6 &&& (p1 ^^^ (-1)))]) (rest := []) S hK hE hst hP hS (cw_X1_38 ht ⟨Nat.le_of_ble_eq_true rfl, Nat.le_of_ble_eq_true rfl⟩) rfl hl.1 rfl (Nat.le_of_ble_eq_true rfl) dX1_fallen_22 z2 (fun _ _ h => c_J6_bitCount_0f7a4 hG  h) hf (fun x7 M H locs hP hS bx7 hf => ?_)
        refine lv_aload_n hx hb dX1_fallen_25 rfl (lv_at hl 0 rfl) ?_
        refine gf_X1_15 S hK hP h0 dX1_fallen_26 hf (fun x8 hx8 hf => ?_)
        refine lv_iload_n hx hb dX1_fallen_29 rfl (lv_at hl 3 rfl) ?_
        refine r_iald S hK hP hx8 dX1_fallen_30 hf (fun x9 hf => ?_)
        refine lv_iload_n hx hb dX1_fallen_31 rfl (lv_at hl 2 rfl) ?_
        refine lv_iconst (v := (-1)) hx hb dX1_fallen_32 (by decide) ?_
        refine lv_ixor hx hb dX1_fallen_33 ?_
        refine lv_iand hx hb dX1_fallen_34 ?_
        refine r_callS (As := [.int (x9 &&& (v1 ^^^ (-1)))]) (rest := [.int x7]) S hK hE hst hP hS (cw_X1_38 ht ⟨Nat.le_of_ble_eq_true rfl, Nat.le_of_ble_eq_true rfl⟩) rfl hl.1 rfl (Nat.le_of_ble_eq_true rfl) dX1_fallen_35 z2 (fun _ _ h => c_J6_bitCount_0f7a4 hG  h) hf (fun x10 M H locs hP hS bx10 hf => ?_)
        refine lv_iadd hx hb dX1_fallen_38 ?_
        refine r_vi hf (fun x11 hf => ?_)
        refine lv_istore (lv' := [(4, .int x11), (0, .ref (ad o)), (1, .int p1), (2, .int v1), (3, .int v2)]) hx hb dX1_fallen_39 hl (by decide) rfl (fun ls hl => ?_)
        refine lv_iload hx hb dX1_fallen_41 (lv_at hl 0 rfl) ?_
        refine lv_aload_n hx hb dX1_fallen_43 rfl (lv_at hl 1 rfl) ?_
        refine gf_X1_18 S hK hP h0 dX1_fallen_44 hf (fun x12 hx12 hf => ?_)
        refine lv_iload_n hx hb dX1_fallen_47 rfl (lv_at hl 4 rfl) ?_
        refine r_iald S hK hP hx12 dX1_fallen_48 hf (fun x13 hf => ?_)
        refine r_icmp_ge (tgt := 58) S dX1_fallen_49 (by decide) hf (fun hf => ?_) (fun hf => ?_)
        · refine lv_iinc (v := (v2 + 1)) (lv' := [(3, .int (v2 + 1)), (4, .int x11), (0, .ref (ad o)), (1, .int p1), (2, .int v1)]) hx hb dX1_fallen_58 hl (k := 4) rfl rfl (by decide) rfl (fun ls hl => ?_)
          refine lv_goto (tgt := 4) hx hb dX1_fallen_61 (by decide) ?_
          exact ih3 v1 (v2 + 1) M H locs ls (lv_sub hl [2, 3, 4, 0] rfl) hP hS hf
        · refine lv_iload_n hx hb dX1_fallen_52 rfl (lv_at hl 3 rfl) ?_
          refine lv_iconst (v := 1) hx hb dX1_fallen_53 (by decide) ?_
          refine lv_iload_n hx hb dX1_fallen_54 rfl (lv_at hl 4 rfl) ?_
          refine lv_ishl hx hb dX1_fallen_55 ?_
          refine lv_ior hx hb dX1_fallen_56 ?_
          refine r_vi hf (fun x14 hf => ?_)
          refine lv_istore_n (lv' := [(2, .int x14), (4, .int x11), (0, .ref (ad o)), (1, .int p1), (3, .int v2)]) hx hb dX1_fallen_57 rfl hl (by decide) rfl (fun ls hl => ?_)
          refine lv_iinc (v := (v2 + 1)) (lv' := [(3, .int (v2 + 1)), (2, .int x14), (4, .int x11), (0, .ref (ad o)), (1, .int p1)]) hx hb dX1_fallen_58 hl (k := 4) rfl rfl (by decide) rfl (fun ls hl => ?_)
          refine lv_goto (tgt := 4) hx hb dX1_fallen_61 (by decide) ?_
          exact ih3 x14 (v2 + 1) M H locs ls (lv_sub hl [3, 4, 1, 0] rfl) hP hS hf
  exact L3 _ 0 0 M H locs ls (lv_sub hl [2, 3, 1, 0] rfl) hP hS hf
def f_X1_addSource (o : Nat) (p1 : Int32) (M : Mem) : Option (Int32 × Mem) :=
  vv (M o 4) fun x1 =>
  if x1 < 8 then
    vv (grf G1 o 5) fun x2 =>
    vv (M o 4) fun x3 =>
    st M x2 x3 8 p1 fun M =>
    vv (M o 4) fun x4 =>
    mm (up M o 4 (x4 + 1)) fun M =>
    vv (M o 4) fun x5 =>
    some ((x5 - 1), M)
  else
    some ((-1000000003), M)
def rm_X1_addSource : Room := { frames := 0, cells := 0, slots := 0, locals := 0 }
set_option maxHeartbeats 4000000 in
set_option maxRecDepth 100000 in
theorem c_X1_addSource {l : Launch} {D : va_G} {K : Ks} {ad : Nat → Nat} {A : Nat → Prop} {tC tA tP : Nat} {kK kV : Nat → Nat} (hG : Gok G1 ad A) {o : Nat} {p1 : Int32} (h0 : gcl G1 o = 1) {M : Mem} {r : Int32} {M' : Mem} (hf : f_X1_addSource o p1 M = some (r, M')) : Ct l (E1 A tC tA tP kK kV) D K G1 ad A yX1_addSource (ws_of yX1_addSource cX1_addSource 2 (some .int)) rm_X1_addSource .int [.ref (ad o), .int p1] M r M' := by
  have hst : Est A (E1 A tC tA tP kK kV) := est1
  refine Ct.ofW (by decide) (Nat.le_of_ble_eq_true rfl) ?_
  intro p e s m args below meth c Q H locs ls S hK hE hP hS hl hret
  have hx := S.1
  have hb := S.2.1
  have hown := S.2.2.2.1
  have ht := S.2.2.2.2
  have hl : lv_has ls 2 [(0, .ref (ad o)), (1, .int p1)] := hl
  unfold f_X1_addSource at hf
  refine lv_aload_n hx hb dX1_addSource_0 rfl (lv_at hl 0 rfl) ?_
  refine gf_X1_34 S hK hP h0 dX1_addSource_1 hf (fun x1 hf => ?_)
  refine lv_bipush (v := 8) hx hb dX1_addSource_4 (by decide) ?_
  refine r_icmp_lt (tgt := 12) S dX1_addSource_6 (by decide) hf (fun hf => ?_) (fun hf => ?_)
  · refine lv_aload_n hx hb dX1_addSource_12 rfl (lv_at hl 0 rfl) ?_
    refine gf_X1_21 S hK hP h0 dX1_addSource_13 hf (fun x2 hx2 hf => ?_)
    refine lv_aload_n hx hb dX1_addSource_16 rfl (lv_at hl 0 rfl) ?_
    refine gf_X1_34 S hK hP h0 dX1_addSource_17 hf (fun x3 hf => ?_)
    refine lv_iload_n hx hb dX1_addSource_20 rfl (lv_at hl 1 rfl) ?_
    refine r_iast S hK hG hP hS hx2 dX1_addSource_21 hf (fun M H locs hP hS hf => ?_)
    refine lv_aload_n hx hb dX1_addSource_22 rfl (lv_at hl 0 rfl) ?_
    refine lv_dup hx hb dX1_addSource_23 rfl ?_
    refine gf_X1_34 S hK hP h0 dX1_addSource_24 hf (fun x4 hf => ?_)
    refine lv_iconst (v := 1) hx hb dX1_addSource_27 (by decide) ?_
    refine lv_iadd hx hb dX1_addSource_28 ?_
    refine pf_X1_34 S hK hG hP hS h0 dX1_addSource_29 hf (fun M H locs hP hS hf => ?_)
    refine lv_aload_n hx hb dX1_addSource_32 rfl (lv_at hl 0 rfl) ?_
    refine gf_X1_34 S hK hP h0 dX1_addSource_33 hf (fun x5 hf => ?_)
    refine lv_iconst (v := 1) hx hb dX1_addSource_36 (by decide) ?_
    refine lv_isub hx hb dX1_addSource_37 ?_
    exact hret _ _ _ _ _ _ dX1_addSource_38 hP hS rfl hf
  · refine lv_ldc (v := (-1000000003)) hx hb hown (ht _ k_896) dX1_addSource_9 ?_
    exact hret _ _ _ _ _ _ dX1_addSource_11 hP hS rfl hf
def f_X1_agreeing (o : Nat) (p1 : Int32) (p2 : Int32) (p3 : Int32) (M : Mem) : Option (Int32 × Mem) :=
  it2 (fun rc3 (v1 : Int32) (v2 : Int32) M =>
    if v2 < 8 then
      jn (fun (v4 : Int32) (M : Mem) =>
        if v4 = 0 then
          rc3 v1 (v2 + 1) M
        else
          vv (grf G1 o 5) fun x6 =>
          ld M x6 p2 8 fun x7 =>
          if ((x7 >>> ((2 * v2) &&& 31)) &&& 3) = p3 then
            vv (v1 ||| ((1 : Int32) <<< (v2 &&& 31))) fun x8 =>
            rc3 x8 (v2 + 1) M
          else
            rc3 v1 (v2 + 1) M
      ) fun k5 =>
      if ((p1 >>> (v2 &&& 31)) &&& 1) = 1 then
        k5 1 M
      else
        k5 0 M
    else
      some (v1, M)
  ) fuel 0 0 M
def rm_X1_agreeing : Room := { frames := 0, cells := 0, slots := 0, locals := 0 }
set_option maxHeartbeats 4000000 in
set_option maxRecDepth 100000 in
theorem c_X1_agreeing {l : Launch} {D : va_G} {K : Ks} {ad : Nat → Nat} {A : Nat → Prop} {tC tA tP : Nat} {kK kV : Nat → Nat} (hG : Gok G1 ad A) {o : Nat} {p1 : Int32} {p2 : Int32} {p3 : Int32} (h0 : gcl G1 o = 1) {M : Mem} {r : Int32} {M' : Mem} (hf : f_X1_agreeing o p1 p2 p3 M = some (r, M')) : Ct l (E1 A tC tA tP kK kV) D K G1 ad A yX1_agreeing (ws_of yX1_agreeing cX1_agreeing 7 (some .int)) rm_X1_agreeing .int [.ref (ad o), .int p1, .int p2, .int p3] M r M' := by
  have hst : Est A (E1 A tC tA tP kK kV) := est1
  refine Ct.ofW (by decide) (Nat.le_of_ble_eq_true rfl) ?_
  intro p e s m args below meth c Q H locs ls S hK hE hP hS hl hret
  have hx := S.1
  have hb := S.2.1
  have hown := S.2.2.2.1
  have ht := S.2.2.2.2
  have hl : lv_has ls 7 [(0, .ref (ad o)), (1, .int p1), (2, .int p2), (3, .int p3)] := hl
  unfold f_X1_agreeing at hf
  refine lv_iconst (v := 0) hx hb dX1_agreeing_0 (by decide) ?_
  refine lv_istore (lv' := [(4, .int 0), (0, .ref (ad o)), (1, .int p1), (2, .int p2), (3, .int p3)]) hx hb dX1_agreeing_1 hl (by decide) rfl (fun ls hl => ?_)
  refine lv_iconst (v := 0) hx hb dX1_agreeing_3 (by decide) ?_
  refine lv_istore (lv' := [(5, .int 0), (4, .int 0), (0, .ref (ad o)), (1, .int p1), (2, .int p2), (3, .int p3)]) hx hb dX1_agreeing_4 hl (by decide) rfl (fun ls hl => ?_)
  obtain ⟨F3, hF3, hf⟩ := it2_g hf
  have L3 : ∀ (n : Nat) (v1 : Int32) (v2 : Int32) (M : Mem) (H : Heap) (locs : List Loc) (ls : Array Slot), lv_has ls 7 [(0, .ref (ad o)), (1, .int p1), (2, .int p2), (3, .int p3), (4, .int v1), (5, .int v2)] → va_P D classes (gws K G1 ad M) H → va_S A s.heap H locs → it2 F3 n v1 v2 M = some (r, M') → W p l e rm_X1_agreeing s m args below meth c H locs 0 0 Q (F0 m 6 ls []) := by
    intro n
    induction n with
    | zero => intro v1 v2 M H locs ls hl hP hS hf; exact nomatch hf
    | succ n ih3 =>
      intro v1 v2 M H locs ls hl hP hS hf
      obtain ⟨rc3, hrc3, hf⟩ := it2_w hf
      rw [← hrc3] at ih3
      rw [hF3] at hf
      refine lv_iload hx hb dX1_agreeing_6 (lv_at hl 5 rfl) ?_
      refine lv_bipush (v := 8) hx hb dX1_agreeing_8 (by decide) ?_
      refine r_icmp_ge (tgt := 67) S dX1_agreeing_10 (by decide) hf (fun hf => ?_) (fun hf => ?_)
      · refine lv_iload hx hb dX1_agreeing_67 (lv_at hl 4 rfl) ?_
        exact hret _ _ _ _ _ _ dX1_agreeing_69 hP hS rfl hf
      · refine lv_iload_n hx hb dX1_agreeing_13 rfl (lv_at hl 1 rfl) ?_
        refine lv_iload hx hb dX1_agreeing_14 (lv_at hl 5 rfl) ?_
        refine lv_ishr hx hb dX1_agreeing_16 ?_
        refine lv_iconst (v := 1) hx hb dX1_agreeing_17 (by decide) ?_
        refine lv_iand hx hb dX1_agreeing_18 ?_
        refine lv_iconst (v := 1) hx hb dX1_agreeing_19 (by decide) ?_
        obtain ⟨k5, hk5, hf⟩ := jn_w hf
        have J5 : ∀ (v4 : Int32) (M : Mem) (H : Heap) (locs : List Loc) (ls : Array Slot), lv_has ls 7 [(0, .ref (ad o)), (1, .int p1), (2, .int p2), (3, .int p3), (4, .int v1), (5, .int v2)] → va_P D classes (gws K G1 ad M) H → va_S A s.heap H locs → k5 v4 M = some (r, M') → W p l e rm_X1_agreeing s m args below meth c H locs 0 0 Q (F0 m 28 ls [.int v4]) := by
          intro v4 M H locs ls hl hP hS hf
          rw [hk5] at hf
          refine lv_istore (lv' := [(6, .int v4), (0, .ref (ad o)), (1, .int p1), (2, .int p2), (3, .int p3), (4, .int v1), (5, .int v2)]) hx hb dX1_agreeing_28 hl (by decide) rfl (fun ls hl => ?_)
          refine lv_iload hx hb dX1_agreeing_30 (lv_at hl 0 rfl) ?_
          refine r_if_eq (tgt := 61) S dX1_agreeing_32 (by decide) hf (fun hf => ?_) (fun hf => ?_)
          · refine lv_iinc (v := (v2 + 1)) (lv' := [(5, .int (v2 + 1)), (6, .int v4), (0, .ref (ad o)), (1, .int p1), (2, .int p2), (3, .int p3), (4, .int v1)]) hx hb dX1_agreeing_61 hl (k := 6) rfl rfl (by decide) rfl (fun ls hl => ?_)
            refine lv_goto (tgt := 6) hx hb dX1_agreeing_64 (by decide) ?_
            exact ih3 v1 (v2 + 1) M H locs ls (lv_sub hl [2, 3, 4, 5, 6, 0] rfl) hP hS hf
          · refine lv_aload_n hx hb dX1_agreeing_35 rfl (lv_at hl 1 rfl) ?_
            refine gf_X1_21 S hK hP h0 dX1_agreeing_36 hf (fun x6 hx6 hf => ?_)
            refine lv_iload_n hx hb dX1_agreeing_39 rfl (lv_at hl 3 rfl) ?_
            refine r_iald S hK hP hx6 dX1_agreeing_40 hf (fun x7 hf => ?_)
            refine lv_iconst (v := 2) hx hb dX1_agreeing_41 (by decide) ?_
            refine lv_iload hx hb dX1_agreeing_42 (lv_at hl 6 rfl) ?_
            refine lv_imul hx hb dX1_agreeing_44 ?_
            refine lv_ishr hx hb dX1_agreeing_45 ?_
            refine lv_iconst (v := 3) hx hb dX1_agreeing_46 (by decide) ?_
            refine lv_iand hx hb dX1_agreeing_47 ?_
            refine lv_iload_n hx hb dX1_agreeing_48 rfl (lv_at hl 4 rfl) ?_
            refine r_icmp_ne (tgt := 61) S dX1_agreeing_49 (by decide) hf (fun hf => ?_) (fun hf => ?_)
            · refine lv_iinc (v := (v2 + 1)) (lv' := [(5, .int (v2 + 1)), (6, .int v4), (0, .ref (ad o)), (1, .int p1), (2, .int p2), (3, .int p3), (4, .int v1)]) hx hb dX1_agreeing_61 hl (k := 6) rfl rfl (by decide) rfl (fun ls hl => ?_)
              refine lv_goto (tgt := 6) hx hb dX1_agreeing_64 (by decide) ?_
              exact ih3 v1 (v2 + 1) M H locs ls (lv_sub hl [2, 3, 4, 5, 6, 0] rfl) hP hS hf
            · refine lv_iload hx hb dX1_agreeing_52 (lv_at hl 5 rfl) ?_
              refine lv_iconst (v := 1) hx hb dX1_agreeing_54 (by decide) ?_
              refine lv_iload hx hb dX1_agreeing_55 (lv_at hl 6 rfl) ?_
              refine lv_ishl hx hb dX1_agreeing_57 ?_
              refine lv_ior hx hb dX1_agreeing_58 ?_
              refine r_vi hf (fun x8 hf => ?_)
              refine lv_istore (lv' := [(4, .int x8), (6, .int v4), (0, .ref (ad o)), (1, .int p1), (2, .int p2), (3, .int p3), (5, .int v2)]) hx hb dX1_agreeing_59 hl (by decide) rfl (fun ls hl => ?_)
              refine lv_iinc (v := (v2 + 1)) (lv' := [(5, .int (v2 + 1)), (4, .int x8), (6, .int v4), (0, .ref (ad o)), (1, .int p1), (2, .int p2), (3, .int p3)]) hx hb dX1_agreeing_61 hl (k := 6) rfl rfl (by decide) rfl (fun ls hl => ?_)
              refine lv_goto (tgt := 6) hx hb dX1_agreeing_64 (by decide) ?_
              exact ih3 x8 (v2 + 1) M H locs ls (lv_sub hl [3, 4, 5, 6, 1, 0] rfl) hP hS hf
        refine r_icmp_ne (tgt := 27) S dX1_agreeing_20 (by decide) hf (fun hf => ?_) (fun hf => ?_)
        · refine lv_iconst (v := 0) hx hb dX1_agreeing_27 (by decide) ?_
          exact J5 0 M H locs ls (lv_sub hl [0, 1, 2, 3, 4, 5] rfl) hP hS hf
        · refine lv_iconst (v := 1) hx hb dX1_agreeing_23 (by decide) ?_
          refine lv_goto (tgt := 28) hx hb dX1_agreeing_24 (by decide) ?_
          exact J5 1 M H locs ls (lv_sub hl [0, 1, 2, 3, 4, 5] rfl) hP hS hf
  exact L3 _ 0 0 M H locs ls (lv_sub hl [2, 3, 4, 5, 1, 0] rfl) hP hS hf
theorem cw_X1_44 {R : Room} {s : State} {args : Array Value} (ht : ∀ w ∈ Tw, w.before args s = true) (hR : rm_X1_agreeing.frames + 1 ≤ R.frames ∧ 8 + (7 + 11) + rm_X1_agreeing.locals ≤ R.locals) : CallW R s args RX1 RX1 44 yX1_agreeing cX1_agreeing 7 (some .int) (ws_of yX1_agreeing cX1_agreeing 7 (some .int)) rm_X1_agreeing 0 0 3 := cw_V 3 ht k_941 k_942 k_943 k_69 k_944 (by decide +kernel) rfl rfl hR
def f_X1_mostLeft (o : Nat) (p1 : Int32) (p2 : Int32) (M : Mem) : Option (Int32 × Mem) :=
  it2 (fun rc3 (v1 : Int32) (v2 : Int32) M =>
    if v2 < 4 then
      bd (f_X1_agreeing o p1 p2 v2 M) fun x4 M =>
      bd (f_J6_bitCount_0f7a4 x4 M) fun x5 M =>
      vv (if v1 < x5 then x5 else v1) fun x6 =>
      rc3 x6 (v2 + 1) M
    else
      some (v1, M)
  ) fuel 0 0 M
def rm_X1_mostLeft : Room := { frames := 1, cells := 0, slots := 0, locals := 60 }
set_option maxHeartbeats 4000000 in
set_option maxRecDepth 100000 in
theorem c_X1_mostLeft {l : Launch} {D : va_G} {K : Ks} {ad : Nat → Nat} {A : Nat → Prop} {tC tA tP : Nat} {kK kV : Nat → Nat} (hG : Gok G1 ad A) {o : Nat} {p1 : Int32} {p2 : Int32} (h0 : gcl G1 o = 1) {M : Mem} {r : Int32} {M' : Mem} (hf : f_X1_mostLeft o p1 p2 M = some (r, M')) : Ct l (E1 A tC tA tP kK kV) D K G1 ad A yX1_mostLeft (ws_of yX1_mostLeft cX1_mostLeft 5 (some .int)) rm_X1_mostLeft .int [.ref (ad o), .int p1, .int p2] M r M' := by
  have hst : Est A (E1 A tC tA tP kK kV) := est1
  refine Ct.ofW (by decide) (Nat.le_of_ble_eq_true rfl) ?_
  intro p e s m args below meth c Q H locs ls S hK hE hP hS hl hret
  have hx := S.1
  have hb := S.2.1
  have hown := S.2.2.2.1
  have ht := S.2.2.2.2
  have hl : lv_has ls 5 [(0, .ref (ad o)), (1, .int p1), (2, .int p2)] := hl
  unfold f_X1_mostLeft at hf
  refine lv_iconst (v := 0) hx hb dX1_mostLeft_0 (by decide) ?_
  refine lv_istore_n (lv' := [(3, .int 0), (0, .ref (ad o)), (1, .int p1), (2, .int p2)]) hx hb dX1_mostLeft_1 rfl hl (by decide) rfl (fun ls hl => ?_)
  refine lv_iconst (v := 0) hx hb dX1_mostLeft_2 (by decide) ?_
  refine lv_istore (lv' := [(4, .int 0), (3, .int 0), (0, .ref (ad o)), (1, .int p1), (2, .int p2)]) hx hb dX1_mostLeft_3 hl (by decide) rfl (fun ls hl => ?_)
  obtain ⟨F3, hF3, hf⟩ := it2_g hf
  have L3 : ∀ (n : Nat) (v1 : Int32) (v2 : Int32) (M : Mem) (H : Heap) (locs : List Loc) (ls : Array Slot), lv_has ls 5 [(0, .ref (ad o)), (1, .int p1), (2, .int p2), (3, .int v1), (4, .int v2)] → va_P D classes (gws K G1 ad M) H → va_S A s.heap H locs → it2 F3 n v1 v2 M = some (r, M') → W p l e rm_X1_mostLeft s m args below meth c H locs 0 0 Q (F0 m 5 ls []) := by
    intro n
    induction n with
    | zero => intro v1 v2 M H locs ls hl hP hS hf; exact nomatch hf
    | succ n ih3 =>
      intro v1 v2 M H locs ls hl hP hS hf
      obtain ⟨rc3, hrc3, hf⟩ := it2_w hf
      rw [← hrc3] at ih3
      rw [hF3] at hf
      refine lv_iload hx hb dX1_mostLeft_5 (lv_at hl 4 rfl) ?_
      refine lv_iconst (v := 4) hx hb dX1_mostLeft_7 (by decide) ?_
      refine r_icmp_ge (tgt := 33) S dX1_mostLeft_8 (by decide) hf (fun hf => ?_) (fun hf => ?_)
      · refine lv_iload_n hx hb dX1_mostLeft_33 rfl (lv_at hl 3 rfl) ?_
        exact hret _ _ _ _ _ _ dX1_mostLeft_34 hP hS rfl hf
      · refine lv_iload_n hx hb dX1_mostLeft_11 rfl (lv_at hl 3 rfl) ?_
        refine lv_aload_n hx hb dX1_mostLeft_12 rfl (lv_at hl 0 rfl) ?_
        refine lv_iload_n hx hb dX1_mostLeft_13 rfl (lv_at hl 1 rfl) ?_
        refine lv_iload_n hx hb dX1_mostLeft_14 rfl (lv_at hl 2 rfl) ?_
        refine lv_iload hx hb dX1_mostLeft_15 (lv_at hl 4 rfl) ?_
        refine r_callV (As := [.int p1, .int p2, .int v2]) (rest := [.int v1]) S hK hE hst hP hS h0 (by decide) rfl (cw_X1_44 ht ⟨Nat.le_of_ble_eq_true rfl, Nat.le_of_ble_eq_true rfl⟩) rfl hl.1 rfl (Nat.le_of_ble_eq_true rfl) dX1_mostLeft_17 z2 (fun _ _ h => c_X1_agreeing hG  h0 h) hf (fun x4 M H locs hP hS bx4 hf => ?_)
        refine r_callS (As := [.int x4]) (rest := [.int v1]) S hK hE hst hP hS (cw_X1_38 ht ⟨Nat.le_of_ble_eq_true rfl, Nat.le_of_ble_eq_true rfl⟩) rfl hl.1 rfl (Nat.le_of_ble_eq_true rfl) dX1_mostLeft_20 z2 (fun _ _ h => c_J6_bitCount_0f7a4 hG  h) hf (fun x5 M H locs hP hS bx5 hf => ?_)
        refine r_max S k_945 k_676 k_74 k_677 hl.1 (Nat.le_of_ble_eq_true rfl) (Nat.le_of_ble_eq_true rfl) z2 dX1_mostLeft_23 ?_
        refine r_vi hf (fun x6 hf => ?_)
        refine lv_istore_n (lv' := [(3, .int x6), (0, .ref (ad o)), (1, .int p1), (2, .int p2), (4, .int v2)]) hx hb dX1_mostLeft_26 rfl hl (by decide) rfl (fun ls hl => ?_)
        refine lv_iinc (v := (v2 + 1)) (lv' := [(4, .int (v2 + 1)), (3, .int x6), (0, .ref (ad o)), (1, .int p1), (2, .int p2)]) hx hb dX1_mostLeft_27 hl (k := 4) rfl rfl (by decide) rfl (fun ls hl => ?_)
        refine lv_goto (tgt := 5) hx hb dX1_mostLeft_30 (by decide) ?_
        exact ih3 x6 (v2 + 1) M H locs ls (lv_sub hl [2, 3, 4, 1, 0] rfl) hP hS hf
  exact L3 _ 0 0 M H locs ls (lv_sub hl [2, 3, 4, 1, 0] rfl) hP hS hf
theorem cw_X1_55 {R : Room} {s : State} {args : Array Value} (ht : ∀ w ∈ Tw, w.before args s = true) (hR : rm_X1_mostLeft.frames + 1 ≤ R.frames ∧ 8 + (5 + 11) + rm_X1_mostLeft.locals ≤ R.locals) : CallW R s args RX1 RX1 55 yX1_mostLeft cX1_mostLeft 5 (some .int) (ws_of yX1_mostLeft cX1_mostLeft 5 (some .int)) rm_X1_mostLeft 0 0 2 := cw_V 2 ht k_937 k_939 k_17 k_69 k_940 (by decide +kernel) rfl rfl hR
def f_X1_bestSource (o : Nat) (p1 : Int32) (M : Mem) : Option (Int32 × Mem) :=
  it3 (fun rc4 (v1 : Int32) (v2 : Int32) (v3 : Int32) M =>
    vv (M o 4) fun x5 =>
    if v3 < x5 then
      bd (f_X1_mostLeft o p1 v3 M) fun x6 M =>
      if x6 < v2 then
        rc4 v3 x6 (v3 + 1) M
      else
        rc4 v1 v2 (v3 + 1) M
    else
      some (v1, M)
  ) fuel (-1000000005) 9 0 M
def rm_X1_bestSource : Room := { frames := 2, cells := 0, slots := 0, locals := 84 }
set_option maxHeartbeats 4000000 in
set_option maxRecDepth 100000 in
theorem c_X1_bestSource {l : Launch} {D : va_G} {K : Ks} {ad : Nat → Nat} {A : Nat → Prop} {tC tA tP : Nat} {kK kV : Nat → Nat} (hG : Gok G1 ad A) {o : Nat} {p1 : Int32} (h0 : gcl G1 o = 1) {M : Mem} {r : Int32} {M' : Mem} (hf : f_X1_bestSource o p1 M = some (r, M')) : Ct l (E1 A tC tA tP kK kV) D K G1 ad A yX1_bestSource (ws_of yX1_bestSource cX1_bestSource 6 (some .int)) rm_X1_bestSource .int [.ref (ad o), .int p1] M r M' := by
  have hst : Est A (E1 A tC tA tP kK kV) := est1
  refine Ct.ofW (by decide) (Nat.le_of_ble_eq_true rfl) ?_
  intro p e s m args below meth c Q H locs ls S hK hE hP hS hl hret
  have hx := S.1
  have hb := S.2.1
  have hown := S.2.2.2.1
  have ht := S.2.2.2.2
  have hl : lv_has ls 6 [(0, .ref (ad o)), (1, .int p1)] := hl
  unfold f_X1_bestSource at hf
  refine lv_ldc (v := (-1000000005)) hx hb hown (ht _ k_936) dX1_bestSource_0 ?_
  refine lv_istore_n (lv' := [(2, .int (-1000000005)), (0, .ref (ad o)), (1, .int p1)]) hx hb dX1_bestSource_2 rfl hl (by decide) rfl (fun ls hl => ?_)
  refine lv_bipush (v := 9) hx hb dX1_bestSource_3 (by decide) ?_
  refine lv_istore_n (lv' := [(3, .int 9), (2, .int (-1000000005)), (0, .ref (ad o)), (1, .int p1)]) hx hb dX1_bestSource_5 rfl hl (by decide) rfl (fun ls hl => ?_)
  refine lv_iconst (v := 0) hx hb dX1_bestSource_6 (by decide) ?_
  refine lv_istore (lv' := [(4, .int 0), (3, .int 9), (2, .int (-1000000005)), (0, .ref (ad o)), (1, .int p1)]) hx hb dX1_bestSource_7 hl (by decide) rfl (fun ls hl => ?_)
  obtain ⟨F4, hF4, hf⟩ := it3_g hf
  have L4 : ∀ (n : Nat) (v1 : Int32) (v2 : Int32) (v3 : Int32) (M : Mem) (H : Heap) (locs : List Loc) (ls : Array Slot), lv_has ls 6 [(0, .ref (ad o)), (1, .int p1), (2, .int v1), (3, .int v2), (4, .int v3)] → va_P D classes (gws K G1 ad M) H → va_S A s.heap H locs → it3 F4 n v1 v2 v3 M = some (r, M') → W p l e rm_X1_bestSource s m args below meth c H locs 0 0 Q (F0 m 9 ls []) := by
    intro n
    induction n with
    | zero => intro v1 v2 v3 M H locs ls hl hP hS hf; exact nomatch hf
    | succ n ih4 =>
      intro v1 v2 v3 M H locs ls hl hP hS hf
      obtain ⟨rc4, hrc4, hf⟩ := it3_w hf
      rw [← hrc4] at ih4
      rw [hF4] at hf
      refine lv_iload hx hb dX1_bestSource_9 (lv_at hl 4 rfl) ?_
      refine lv_aload_n hx hb dX1_bestSource_11 rfl (lv_at hl 0 rfl) ?_
      refine gf_X1_34 S hK hP h0 dX1_bestSource_12 hf (fun x5 hf => ?_)
      refine r_icmp_ge (tgt := 45) S dX1_bestSource_15 (by decide) hf (fun hf => ?_) (fun hf => ?_)
      · refine lv_iload_n hx hb dX1_bestSource_45 rfl (lv_at hl 2 rfl) ?_
        exact hret _ _ _ _ _ _ dX1_bestSource_46 hP hS rfl hf
      · refine lv_aload_n hx hb dX1_bestSource_18 rfl (lv_at hl 0 rfl) ?_
        refine lv_iload_n hx hb dX1_bestSource_19 rfl (lv_at hl 1 rfl) ?_
        refine lv_iload hx hb dX1_bestSource_20 (lv_at hl 4 rfl) ?_
        refine r_callV (As := [.int p1, .int v3]) (rest := []) S hK hE hst hP hS h0 (by decide) rfl (cw_X1_55 ht ⟨Nat.le_of_ble_eq_true rfl, Nat.le_of_ble_eq_true rfl⟩) rfl hl.1 rfl (Nat.le_of_ble_eq_true rfl) dX1_bestSource_22 z2 (fun _ _ h => c_X1_mostLeft hG  h0 h) hf (fun x6 M H locs hP hS bx6 hf => ?_)
        refine lv_istore (lv' := [(5, .int x6), (0, .ref (ad o)), (1, .int p1), (2, .int v1), (3, .int v2), (4, .int v3)]) hx hb dX1_bestSource_25 hl (by decide) rfl (fun ls hl => ?_)
        refine lv_iload hx hb dX1_bestSource_27 (lv_at hl 0 rfl) ?_
        refine lv_iload_n hx hb dX1_bestSource_29 rfl (lv_at hl 4 rfl) ?_
        refine r_icmp_ge (tgt := 39) S dX1_bestSource_30 (by decide) hf (fun hf => ?_) (fun hf => ?_)
        · refine lv_iinc (v := (v3 + 1)) (lv' := [(4, .int (v3 + 1)), (5, .int x6), (0, .ref (ad o)), (1, .int p1), (2, .int v1), (3, .int v2)]) hx hb dX1_bestSource_39 hl (k := 5) rfl rfl (by decide) rfl (fun ls hl => ?_)
          refine lv_goto (tgt := 9) hx hb dX1_bestSource_42 (by decide) ?_
          exact ih4 v1 v2 (v3 + 1) M H locs ls (lv_sub hl [2, 3, 4, 5, 0] rfl) hP hS hf
        · refine lv_iload hx hb dX1_bestSource_33 (lv_at hl 0 rfl) ?_
          refine lv_istore_n (lv' := [(3, .int x6), (5, .int x6), (0, .ref (ad o)), (1, .int p1), (2, .int v1), (4, .int v3)]) hx hb dX1_bestSource_35 rfl hl (by decide) rfl (fun ls hl => ?_)
          refine lv_iload hx hb dX1_bestSource_36 (lv_at hl 5 rfl) ?_
          refine lv_istore_n (lv' := [(2, .int v3), (3, .int x6), (5, .int x6), (0, .ref (ad o)), (1, .int p1), (4, .int v3)]) hx hb dX1_bestSource_38 rfl hl (by decide) rfl (fun ls hl => ?_)
          refine lv_iinc (v := (v3 + 1)) (lv' := [(4, .int (v3 + 1)), (2, .int v3), (3, .int x6), (5, .int x6), (0, .ref (ad o)), (1, .int p1)]) hx hb dX1_bestSource_39 hl (k := 5) rfl rfl (by decide) rfl (fun ls hl => ?_)
          refine lv_goto (tgt := 9) hx hb dX1_bestSource_42 (by decide) ?_
          exact ih4 v3 x6 (v3 + 1) M H locs ls (lv_sub hl [4, 5, 1, 2, 0] rfl) hP hS hf
  exact L4 _ (-1000000005) 9 0 M H locs ls (lv_sub hl [3, 4, 2, 1, 0] rfl) hP hS hf
section
variable {p : Program} {l : Launch} {e : Env} {R : Room} {s : State} {m : MethodId} {args : Array Value} {below : List Frame} {meth : Method} {c : Code} {H : Heap} {locs : List Loc} {cells slots : Nat} {Q : State → Prop} {cc : ByteArray} {pc : Nat} {ls : Array Slot} {rest : List Value} {nL : Nat} {D : va_G} {K : Ks} {ad : Nat → Nat} {A : Nat → Prop} {M : Mem} {β : Type} {z : β}
theorem gf_X2_15 (S : CallFix p m c cc nL s args Tw RX2) (hK : va_K D classes (gty K) s) (hP : va_P D classes (gws K G1 ad M) H) {a : Nat} {kk : Nat → Option β} (ha : gcl G1 a = 2) (hdg : decode cc pc = .ok (.getfield 15, 3)) (hf : vv (grf G1 a 2) kk = some z) (w : ∀ b, gcl G1 b = 20 ∧ gsz G1 b = 20 → kk b = some z → W p l e R s m args below meth c H locs cells slots Q (F0 m (pc + 3) ls (.ref (ad b) :: rest))) : W p l e R s m args below meth c H locs cells slots Q (F0 m pc ls (.ref (ad a) :: rest)) := r_getr S hK hP (T := TX2) inX2 rfl (by decide) (by decide) ha (sf_X2_2 ha).1 k_195 hdg hf (fun b e => w b (by rw [e]; exact (sf_X2_2 ha).2))
end
section
variable {p : Program} {l : Launch} {e : Env} {R : Room} {s : State} {m : MethodId} {args : Array Value} {below : List Frame} {meth : Method} {c : Code} {H : Heap} {locs : List Loc} {cells slots : Nat} {Q : State → Prop} {cc : ByteArray} {pc : Nat} {ls : Array Slot} {rest : List Value} {nL : Nat} {D : va_G} {K : Ks} {ad : Nat → Nat} {A : Nat → Prop} {M : Mem} {β : Type} {z : β}
theorem gf_X2_18 (S : CallFix p m c cc nL s args Tw RX2) (hK : va_K D classes (gty K) s) (hP : va_P D classes (gws K G1 ad M) H) {a : Nat} {kk : Nat → Option β} (ha : gcl G1 a = 2) (hdg : decode cc pc = .ok (.getfield 18, 3)) (hf : vv (grf G1 a 3) kk = some z) (w : ∀ b, gcl G1 b = 20 ∧ gsz G1 b = 20 → kk b = some z → W p l e R s m args below meth c H locs cells slots Q (F0 m (pc + 3) ls (.ref (ad b) :: rest))) : W p l e R s m args below meth c H locs cells slots Q (F0 m pc ls (.ref (ad a) :: rest)) := r_getr S hK hP (T := TX2) inX2 rfl (by decide) (by decide) ha (sf_X2_3 ha).1 k_196 hdg hf (fun b e => w b (by rw [e]; exact (sf_X2_3 ha).2))
end
section
variable {p : Program} {l : Launch} {e : Env} {R : Room} {s : State} {m : MethodId} {args : Array Value} {below : List Frame} {meth : Method} {c : Code} {H : Heap} {locs : List Loc} {cells slots : Nat} {Q : State → Prop} {cc : ByteArray} {pc : Nat} {ls : Array Slot} {rest : List Value} {nL : Nat} {D : va_G} {K : Ks} {ad : Nat → Nat} {A : Nat → Prop} {M : Mem} {β : Type} {z : β}
theorem gf_X2_30 (S : CallFix p m c cc nL s args Tw RX2) (hK : va_K D classes (gty K) s) (hP : va_P D classes (gws K G1 ad M) H) {a : Nat} {kk : Int32 → Option β} (ha : gcl G1 a = 2) (hdg : decode cc pc = .ok (.getfield 30, 3)) (hf : vv (M a 1) kk = some z) (w : ∀ x, kk x = some z → W p l e R s m args below meth c H locs cells slots Q (F0 m (pc + 3) ls (.int x :: rest))) : W p l e R s m args below meth c H locs cells slots Q (F0 m pc ls (.ref (ad a) :: rest)) := r_geti S hK hP (T := TX2) inX2 rfl (by decide) (by decide) ha (sf_X2_1 ha) k_193 hdg hf w
end
section
variable {p : Program} {l : Launch} {e : Env} {R : Room} {s : State} {m : MethodId} {args : Array Value} {below : List Frame} {meth : Method} {c : Code} {H : Heap} {locs : List Loc} {cells slots : Nat} {Q : State → Prop} {cc : ByteArray} {pc : Nat} {ls : Array Slot} {rest : List Value} {nL : Nat} {D : va_G} {K : Ks} {ad : Nat → Nat} {A : Nat → Prop} {M : Mem} {β : Type} {z : β}
theorem gf_X2_9 (S : CallFix p m c cc nL s args Tw RX2) (hK : va_K D classes (gty K) s) (hP : va_P D classes (gws K G1 ad M) H) {a : Nat} {kk : Nat → Option β} (ha : gcl G1 a = 2) (hdg : decode cc pc = .ok (.getfield 9, 3)) (hf : vv (grf G1 a 0) kk = some z) (w : ∀ b, gcl G1 b = 20 ∧ gsz G1 b = 36 → kk b = some z → W p l e R s m args below meth c H locs cells slots Q (F0 m (pc + 3) ls (.ref (ad b) :: rest))) : W p l e R s m args below meth c H locs cells slots Q (F0 m pc ls (.ref (ad a) :: rest)) := r_getr S hK hP (T := TX2) inX2 rfl (by decide) (by decide) ha (sf_X2_0 ha).1 k_192 hdg hf (fun b e => w b (by rw [e]; exact (sf_X2_0 ha).2))
end
section
variable {p : Program} {l : Launch} {e : Env} {R : Room} {s : State} {m : MethodId} {args : Array Value} {below : List Frame} {meth : Method} {c : Code} {H : Heap} {locs : List Loc} {cells slots : Nat} {Q : State → Prop} {cc : ByteArray} {pc : Nat} {ls : Array Slot} {rest : List Value} {nL : Nat} {D : va_G} {K : Ks} {ad : Nat → Nat} {A : Nat → Prop} {M : Mem} {β : Type} {z : β}
theorem pf_X2_30 (S : CallFix p m c cc nL s args Tw RX2) (hK : va_K D classes (gty K) s) (hG : Gok G1 ad A) (hP : va_P D classes (gws K G1 ad M) H) (hS : va_S A s.heap H locs) {a : Nat} {v : Int32} {kk : Mem → Option β} (ha : gcl G1 a = 2) (hdg : decode cc pc = .ok (.putfield 30, 3)) (hf : mm (up M a 1 v) kk = some z) (w : ∀ M H locs, va_P D classes (gws K G1 ad M) H → va_S A s.heap H locs → kk M = some z → W p l e R s m args below meth c H locs cells slots Q (F0 m (pc + 3) ls rest)) : W p l e R s m args below meth c H locs cells slots Q (F0 m pc ls (.int v :: .ref (ad a) :: rest)) := r_putt S hK hG hP hS (k := 1) (T := TX2) inX2 rfl (by decide) tyX2 tyX2_ok nmX2 (by decide) rfl rfl rfl ha (sf_X2_1 ha) k_193 hdg hf w
end
def f_X2_become (o : Nat) (p1 : Nat) (M : Mem) : Option (Int32 × Mem) :=
  vv (grf G1 p1 0) fun x1 =>
  vv (grf G1 o 0) fun x2 =>
  cy M x1 0 36 x2 0 36 36 fun M =>
  vv (M p1 1) fun x3 =>
  mm (up M o 1 x3) fun M =>
  vv (grf G1 p1 2) fun x4 =>
  vv (grf G1 o 2) fun x5 =>
  cy M x4 0 20 x5 0 20 20 fun M =>
  vv (grf G1 p1 3) fun x6 =>
  vv (grf G1 o 3) fun x7 =>
  cy M x6 0 20 x7 0 20 20 fun M =>
  some (0, M)
def rm_X2_become : Room := { frames := 1, cells := 0, slots := 0, locals := 60 }
set_option maxHeartbeats 4000000 in
set_option maxRecDepth 100000 in
theorem c_X2_become {l : Launch} {D : va_G} {K : Ks} {ad : Nat → Nat} {A : Nat → Prop} {tC tA tP : Nat} {kK kV : Nat → Nat} (hG : Gok G1 ad A) {o : Nat} {p1 : Nat} (h0 : gcl G1 o = 2) (h1 : gcl G1 p1 = 2) {M : Mem} {r : Int32} {M' : Mem} (hf : f_X2_become o p1 M = some (r, M')) : Cv l (E1 A tC tA tP kK kV) D K G1 ad A yX2_become (ws_of yX2_become cX2_become 2 none) rm_X2_become [.ref (ad o), .ref (ad p1)] M M' := by
  have hst : Est A (E1 A tC tA tP kK kV) := est1
  refine Cv.ofW (r := r) (by decide) (Nat.le_of_ble_eq_true rfl) ?_
  intro p e s m args below meth c Q H locs ls S hK hE hP hS hl hret
  have hx := S.1
  have hb := S.2.1
  have hown := S.2.2.2.1
  have ht := S.2.2.2.2
  have hl : lv_has ls 2 [(0, .ref (ad o)), (1, .ref (ad p1))] := hl
  unfold f_X2_become at hf
  refine lv_aload_n hx hb dX2_become_0 rfl (lv_at hl 1 rfl) ?_
  refine gf_X2_9 S hK hP h1 dX2_become_1 hf (fun x1 hx1 hf => ?_)
  refine lv_iconst (v := 0) hx hb dX2_become_4 (by decide) ?_
  refine lv_aload_n hx hb dX2_become_5 rfl (lv_at hl 0 rfl) ?_
  refine gf_X2_9 S hK hP h0 dX2_become_6 hf (fun x2 hx2 hf => ?_)
  refine lv_iconst (v := 0) hx hb dX2_become_9 (by decide) ?_
  refine lv_bipush (v := 36) hx hb dX2_become_10 (by decide) ?_
  refine r_copy S hK hG hP hS hx1 hx2 k_1076 k_729 k_728 k_80 hl.1 (Nat.le_of_ble_eq_true rfl) (Nat.le_of_ble_eq_true rfl) dX2_become_12 hf (fun M H locs hP hS hf => ?_)
  refine lv_aload_n hx hb dX2_become_15 rfl (lv_at hl 0 rfl) ?_
  refine lv_aload_n hx hb dX2_become_16 rfl (lv_at hl 1 rfl) ?_
  refine gf_X2_30 S hK hP h1 dX2_become_17 hf (fun x3 hf => ?_)
  refine pf_X2_30 S hK hG hP hS h0 dX2_become_20 hf (fun M H locs hP hS hf => ?_)
  refine lv_aload_n hx hb dX2_become_23 rfl (lv_at hl 1 rfl) ?_
  refine gf_X2_15 S hK hP h1 dX2_become_24 hf (fun x4 hx4 hf => ?_)
  refine lv_iconst (v := 0) hx hb dX2_become_27 (by decide) ?_
  refine lv_aload_n hx hb dX2_become_28 rfl (lv_at hl 0 rfl) ?_
  refine gf_X2_15 S hK hP h0 dX2_become_29 hf (fun x5 hx5 hf => ?_)
  refine lv_iconst (v := 0) hx hb dX2_become_32 (by decide) ?_
  refine lv_bipush (v := 20) hx hb dX2_become_33 (by decide) ?_
  refine r_copy S hK hG hP hS hx4 hx5 k_1076 k_729 k_728 k_80 hl.1 (Nat.le_of_ble_eq_true rfl) (Nat.le_of_ble_eq_true rfl) dX2_become_35 hf (fun M H locs hP hS hf => ?_)
  refine lv_aload_n hx hb dX2_become_38 rfl (lv_at hl 1 rfl) ?_
  refine gf_X2_18 S hK hP h1 dX2_become_39 hf (fun x6 hx6 hf => ?_)
  refine lv_iconst (v := 0) hx hb dX2_become_42 (by decide) ?_
  refine lv_aload_n hx hb dX2_become_43 rfl (lv_at hl 0 rfl) ?_
  refine gf_X2_18 S hK hP h0 dX2_become_44 hf (fun x7 hx7 hf => ?_)
  refine lv_iconst (v := 0) hx hb dX2_become_47 (by decide) ?_
  refine lv_bipush (v := 20) hx hb dX2_become_48 (by decide) ?_
  refine r_copy S hK hG hP hS hx6 hx7 k_1076 k_729 k_728 k_80 hl.1 (Nat.le_of_ble_eq_true rfl) (Nat.le_of_ble_eq_true rfl) dX2_become_50 hf (fun M H locs hP hS hf => ?_)
  exact hret _ _ _ _ _ _ dX2_become_53 hP hS hf
def f_X2_setRoad (o : Nat) (p1 : Int32) (p2 : Int32) (p3 : Int32) (M : Mem) : Option (Int32 × Mem) :=
  vv (grf G1 o 0) fun x1 =>
  ld M x1 ((p1 * 6) + p2) 36 fun x2 =>
  vv (grf G1 o 0) fun x3 =>
  st M x3 ((p1 * 6) + p2) 36 p3 fun M =>
  vv (grf G1 o 0) fun x4 =>
  st M x4 ((p2 * 6) + p1) 36 p3 fun M =>
  some (x2, M)
def rm_X2_setRoad : Room := { frames := 0, cells := 0, slots := 0, locals := 0 }
set_option maxHeartbeats 4000000 in
set_option maxRecDepth 100000 in
theorem c_X2_setRoad {l : Launch} {D : va_G} {K : Ks} {ad : Nat → Nat} {A : Nat → Prop} {tC tA tP : Nat} {kK kV : Nat → Nat} (hG : Gok G1 ad A) {o : Nat} {p1 : Int32} {p2 : Int32} {p3 : Int32} (h0 : gcl G1 o = 2) {M : Mem} {r : Int32} {M' : Mem} (hf : f_X2_setRoad o p1 p2 p3 M = some (r, M')) : Ct l (E1 A tC tA tP kK kV) D K G1 ad A yX2_setRoad (ws_of yX2_setRoad cX2_setRoad 5 (some .int)) rm_X2_setRoad .int [.ref (ad o), .int p1, .int p2, .int p3] M r M' := by
  have hst : Est A (E1 A tC tA tP kK kV) := est1
  refine Ct.ofW (by decide) (Nat.le_of_ble_eq_true rfl) ?_
  intro p e s m args below meth c Q H locs ls S hK hE hP hS hl hret
  have hx := S.1
  have hb := S.2.1
  have hown := S.2.2.2.1
  have ht := S.2.2.2.2
  have hl : lv_has ls 5 [(0, .ref (ad o)), (1, .int p1), (2, .int p2), (3, .int p3)] := hl
  unfold f_X2_setRoad at hf
  refine lv_aload_n hx hb dX2_setRoad_0 rfl (lv_at hl 0 rfl) ?_
  refine gf_X2_9 S hK hP h0 dX2_setRoad_1 hf (fun x1 hx1 hf => ?_)
  refine lv_iload_n hx hb dX2_setRoad_4 rfl (lv_at hl 1 rfl) ?_
  refine lv_bipush (v := 6) hx hb dX2_setRoad_5 (by decide) ?_
  refine lv_imul hx hb dX2_setRoad_7 ?_
  refine lv_iload_n hx hb dX2_setRoad_8 rfl (lv_at hl 2 rfl) ?_
  refine lv_iadd hx hb dX2_setRoad_9 ?_
  refine r_iald S hK hP hx1 dX2_setRoad_10 hf (fun x2 hf => ?_)
  refine lv_istore (lv' := [(4, .int x2), (0, .ref (ad o)), (1, .int p1), (2, .int p2), (3, .int p3)]) hx hb dX2_setRoad_11 hl (by decide) rfl (fun ls hl => ?_)
  refine lv_aload_n hx hb dX2_setRoad_13 rfl (lv_at hl 1 rfl) ?_
  refine gf_X2_9 S hK hP h0 dX2_setRoad_14 hf (fun x3 hx3 hf => ?_)
  refine lv_iload_n hx hb dX2_setRoad_17 rfl (lv_at hl 2 rfl) ?_
  refine lv_bipush (v := 6) hx hb dX2_setRoad_18 (by decide) ?_
  refine lv_imul hx hb dX2_setRoad_20 ?_
  refine lv_iload_n hx hb dX2_setRoad_21 rfl (lv_at hl 3 rfl) ?_
  refine lv_iadd hx hb dX2_setRoad_22 ?_
  refine lv_iload_n hx hb dX2_setRoad_23 rfl (lv_at hl 4 rfl) ?_
  refine r_iast S hK hG hP hS hx3 dX2_setRoad_24 hf (fun M H locs hP hS hf => ?_)
  refine lv_aload_n hx hb dX2_setRoad_25 rfl (lv_at hl 1 rfl) ?_
  refine gf_X2_9 S hK hP h0 dX2_setRoad_26 hf (fun x4 hx4 hf => ?_)
  refine lv_iload_n hx hb dX2_setRoad_29 rfl (lv_at hl 3 rfl) ?_
  refine lv_bipush (v := 6) hx hb dX2_setRoad_30 (by decide) ?_
  refine lv_imul hx hb dX2_setRoad_32 ?_
  refine lv_iload_n hx hb dX2_setRoad_33 rfl (lv_at hl 2 rfl) ?_
  refine lv_iadd hx hb dX2_setRoad_34 ?_
  refine lv_iload_n hx hb dX2_setRoad_35 rfl (lv_at hl 4 rfl) ?_
  refine r_iast S hK hG hP hS hx4 dX2_setRoad_36 hf (fun M H locs hP hS hf => ?_)
  refine lv_iload hx hb dX2_setRoad_37 (lv_at hl 0 rfl) ?_
  exact hret _ _ _ _ _ _ dX2_setRoad_39 hP hS rfl hf
section
variable {p : Program} {l : Launch} {e : Env} {R : Room} {s : State} {m : MethodId} {args : Array Value} {below : List Frame} {meth : Method} {c : Code} {H : Heap} {locs : List Loc} {cells slots : Nat} {Q : State → Prop} {cc : ByteArray} {pc : Nat} {ls : Array Slot} {rest : List Value} {nL : Nat} {D : va_G} {K : Ks} {ad : Nat → Nat} {A : Nat → Prop} {M : Mem} {β : Type} {z : β}
theorem gf_X2_21 (S : CallFix p m c cc nL s args Tw RX2) (hK : va_K D classes (gty K) s) (hP : va_P D classes (gws K G1 ad M) H) {a : Nat} {kk : Nat → Option β} (ha : gcl G1 a = 2) (hdg : decode cc pc = .ok (.getfield 21, 3)) (hf : vv (grf G1 a 4) kk = some z) (w : ∀ b, gcl G1 b = 20 ∧ gsz G1 b = 6 → kk b = some z → W p l e R s m args below meth c H locs cells slots Q (F0 m (pc + 3) ls (.ref (ad b) :: rest))) : W p l e R s m args below meth c H locs cells slots Q (F0 m pc ls (.ref (ad a) :: rest)) := r_getr S hK hP (T := TX2) inX2 rfl (by decide) (by decide) ha (sf_X2_4 ha).1 k_197 hdg hf (fun b e => w b (by rw [e]; exact (sf_X2_4 ha).2))
end
def f_X2_goOneRoadOn (o : Nat) (M : Mem) : Option (Int32 × Mem) :=
  it1 (fun rc2 (v1 : Int32) M =>
    if v1 < 6 then
      it1 (fun rc4 (v3 : Int32) M =>
        if v3 < 6 then
          vv (grf G1 o 0) fun x5 =>
          ld M x5 ((v1 * 6) + v3) 36 fun x6 =>
          if 0 < x6 then
            vv (grf G1 o 4) fun x7 =>
            vv (grf G1 o 4) fun x8 =>
            ld M x8 v3 6 fun x9 =>
            vv (grf G1 o 4) fun x10 =>
            ld M x10 v1 6 fun x11 =>
            vv (if (x11 + x6) < x9 then (x11 + x6) else x9) fun x12 =>
            st M x7 v3 6 x12 fun M =>
            rc4 (v3 + 1) M
          else
            rc4 (v3 + 1) M
        else
          rc2 (v1 + 1) M
      ) fuel 0 M
    else
      some (0, M)
  ) fuel 0 M
def rm_X2_goOneRoadOn : Room := { frames := 1, cells := 0, slots := 0, locals := 60 }
set_option maxHeartbeats 4000000 in
set_option maxRecDepth 100000 in
theorem c_X2_goOneRoadOn {l : Launch} {D : va_G} {K : Ks} {ad : Nat → Nat} {A : Nat → Prop} {tC tA tP : Nat} {kK kV : Nat → Nat} (hG : Gok G1 ad A) {o : Nat} (h0 : gcl G1 o = 2) {M : Mem} {r : Int32} {M' : Mem} (hf : f_X2_goOneRoadOn o M = some (r, M')) : Cv l (E1 A tC tA tP kK kV) D K G1 ad A yX2_goOneRoadOn (ws_of yX2_goOneRoadOn cX2_goOneRoadOn 4 none) rm_X2_goOneRoadOn [.ref (ad o)] M M' := by
  have hst : Est A (E1 A tC tA tP kK kV) := est1
  refine Cv.ofW (r := r) (by decide) (Nat.le_of_ble_eq_true rfl) ?_
  intro p e s m args below meth c Q H locs ls S hK hE hP hS hl hret
  have hx := S.1
  have hb := S.2.1
  have hown := S.2.2.2.1
  have ht := S.2.2.2.2
  have hl : lv_has ls 4 [(0, .ref (ad o))] := hl
  unfold f_X2_goOneRoadOn at hf
  refine lv_iconst (v := 0) hx hb dX2_goOneRoadOn_0 (by decide) ?_
  refine lv_istore_n (lv' := [(1, .int 0), (0, .ref (ad o))]) hx hb dX2_goOneRoadOn_1 rfl hl (by decide) rfl (fun ls hl => ?_)
  obtain ⟨F2, hF2, hf⟩ := it1_g hf
  have L2 : ∀ (n : Nat) (v1 : Int32) (M : Mem) (H : Heap) (locs : List Loc) (ls : Array Slot), lv_has ls 4 [(0, .ref (ad o)), (1, .int v1)] → va_P D classes (gws K G1 ad M) H → va_S A s.heap H locs → it1 F2 n v1 M = some (r, M') → W p l e rm_X2_goOneRoadOn s m args below meth c H locs 0 0 Q (F0 m 2 ls []) := by
    intro n
    induction n with
    | zero => intro v1 M H locs ls hl hP hS hf; exact nomatch hf
    | succ n ih2 =>
      intro v1 M H locs ls hl hP hS hf
      obtain ⟨rc2, hrc2, hf⟩ := it1_w hf
      rw [← hrc2] at ih2
      rw [hF2] at hf
      refine lv_iload_n hx hb dX2_goOneRoadOn_2 rfl (lv_at hl 1 rfl) ?_
      refine lv_bipush (v := 6) hx hb dX2_goOneRoadOn_3 (by decide) ?_
      refine r_icmp_ge (tgt := 67) S dX2_goOneRoadOn_5 (by decide) hf (fun hf => ?_) (fun hf => ?_)
      · exact hret _ _ _ _ _ _ dX2_goOneRoadOn_67 hP hS hf
      · refine lv_iconst (v := 0) hx hb dX2_goOneRoadOn_8 (by decide) ?_
        refine lv_istore_n (lv' := [(2, .int 0), (0, .ref (ad o)), (1, .int v1)]) hx hb dX2_goOneRoadOn_9 rfl hl (by decide) rfl (fun ls hl => ?_)
        obtain ⟨F4, hF4, hf⟩ := it1_g hf
        have L4 : ∀ (n : Nat) (v3 : Int32) (M : Mem) (H : Heap) (locs : List Loc) (ls : Array Slot), lv_has ls 4 [(0, .ref (ad o)), (1, .int v1), (2, .int v3)] → va_P D classes (gws K G1 ad M) H → va_S A s.heap H locs → it1 F4 n v3 M = some (r, M') → W p l e rm_X2_goOneRoadOn s m args below meth c H locs 0 0 Q (F0 m 10 ls []) := by
          intro n
          induction n with
          | zero => intro v3 M H locs ls hl hP hS hf; exact nomatch hf
          | succ n ih4 =>
            intro v3 M H locs ls hl hP hS hf
            obtain ⟨rc4, hrc4, hf⟩ := it1_w hf
            rw [← hrc4] at ih4
            rw [hF4] at hf
            refine lv_iload_n hx hb dX2_goOneRoadOn_10 rfl (lv_at hl 2 rfl) ?_
            refine lv_bipush (v := 6) hx hb dX2_goOneRoadOn_11 (by decide) ?_
            refine r_icmp_ge (tgt := 61) S dX2_goOneRoadOn_13 (by decide) hf (fun hf => ?_) (fun hf => ?_)
            · refine lv_iinc (v := (v1 + 1)) (lv' := [(1, .int (v1 + 1)), (0, .ref (ad o)), (2, .int v3)]) hx hb dX2_goOneRoadOn_61 hl (k := 1) rfl rfl (by decide) rfl (fun ls hl => ?_)
              refine lv_goto (tgt := 2) hx hb dX2_goOneRoadOn_64 (by decide) ?_
              exact ih2 (v1 + 1) M H locs ls (lv_sub hl [1, 0] rfl) hP hS hf
            · refine lv_aload_n hx hb dX2_goOneRoadOn_16 rfl (lv_at hl 0 rfl) ?_
              refine gf_X2_9 S hK hP h0 dX2_goOneRoadOn_17 hf (fun x5 hx5 hf => ?_)
              refine lv_iload_n hx hb dX2_goOneRoadOn_20 rfl (lv_at hl 1 rfl) ?_
              refine lv_bipush (v := 6) hx hb dX2_goOneRoadOn_21 (by decide) ?_
              refine lv_imul hx hb dX2_goOneRoadOn_23 ?_
              refine lv_iload_n hx hb dX2_goOneRoadOn_24 rfl (lv_at hl 2 rfl) ?_
              refine lv_iadd hx hb dX2_goOneRoadOn_25 ?_
              refine r_iald S hK hP hx5 dX2_goOneRoadOn_26 hf (fun x6 hf => ?_)
              refine lv_istore_n (lv' := [(3, .int x6), (0, .ref (ad o)), (1, .int v1), (2, .int v3)]) hx hb dX2_goOneRoadOn_27 rfl hl (by decide) rfl (fun ls hl => ?_)
              refine lv_iload_n hx hb dX2_goOneRoadOn_28 rfl (lv_at hl 0 rfl) ?_
              refine r_if_le (tgt := 55) S dX2_goOneRoadOn_29 (by decide) hf (fun hf => ?_) (fun hf => ?_)
              · refine lv_iinc (v := (v3 + 1)) (lv' := [(2, .int (v3 + 1)), (3, .int x6), (0, .ref (ad o)), (1, .int v1)]) hx hb dX2_goOneRoadOn_55 hl (k := 3) rfl rfl (by decide) rfl (fun ls hl => ?_)
                refine lv_goto (tgt := 10) hx hb dX2_goOneRoadOn_58 (by decide) ?_
                exact ih4 (v3 + 1) M H locs ls (lv_sub hl [2, 3, 0] rfl) hP hS hf
              · refine lv_aload_n hx hb dX2_goOneRoadOn_32 rfl (lv_at hl 1 rfl) ?_
                refine gf_X2_21 S hK hP h0 dX2_goOneRoadOn_33 hf (fun x7 hx7 hf => ?_)
                refine lv_iload_n hx hb dX2_goOneRoadOn_36 rfl (lv_at hl 3 rfl) ?_
                refine lv_aload_n hx hb dX2_goOneRoadOn_37 rfl (lv_at hl 1 rfl) ?_
                refine gf_X2_21 S hK hP h0 dX2_goOneRoadOn_38 hf (fun x8 hx8 hf => ?_)
                refine lv_iload_n hx hb dX2_goOneRoadOn_41 rfl (lv_at hl 3 rfl) ?_
                refine r_iald S hK hP hx8 dX2_goOneRoadOn_42 hf (fun x9 hf => ?_)
                refine lv_aload_n hx hb dX2_goOneRoadOn_43 rfl (lv_at hl 1 rfl) ?_
                refine gf_X2_21 S hK hP h0 dX2_goOneRoadOn_44 hf (fun x10 hx10 hf => ?_)
                refine lv_iload_n hx hb dX2_goOneRoadOn_47 rfl (lv_at hl 2 rfl) ?_
                refine r_iald S hK hP hx10 dX2_goOneRoadOn_48 hf (fun x11 hf => ?_)
                refine lv_iload_n hx hb dX2_goOneRoadOn_49 rfl (lv_at hl 0 rfl) ?_
                refine lv_iadd hx hb dX2_goOneRoadOn_50 ?_
                refine r_min S k_860 k_679 k_74 k_680 hl.1 (Nat.le_of_ble_eq_true rfl) (Nat.le_of_ble_eq_true rfl) z2 dX2_goOneRoadOn_51 ?_
                refine r_vi hf (fun x12 hf => ?_)
                refine r_iast S hK hG hP hS hx7 dX2_goOneRoadOn_54 hf (fun M H locs hP hS hf => ?_)
                refine lv_iinc (v := (v3 + 1)) (lv' := [(2, .int (v3 + 1)), (3, .int x6), (0, .ref (ad o)), (1, .int v1)]) hx hb dX2_goOneRoadOn_55 hl (k := 3) rfl rfl (by decide) rfl (fun ls hl => ?_)
                refine lv_goto (tgt := 10) hx hb dX2_goOneRoadOn_58 (by decide) ?_
                exact ih4 (v3 + 1) M H locs ls (lv_sub hl [2, 3, 0] rfl) hP hS hf
        exact L4 _ 0 M H locs ls (lv_sub hl [1, 2, 0] rfl) hP hS hf
  exact L2 _ 0 M H locs ls (lv_sub hl [1, 0] rfl) hP hS hf
theorem cw_X2_35 {R : Room} {s : State} {args : Array Value} (ht : ∀ w ∈ Tw, w.before args s = true) (hR : rm_X2_goOneRoadOn.frames + 1 ≤ R.frames ∧ 8 + (4 + 11) + rm_X2_goOneRoadOn.locals ≤ R.locals) : CallW R s args RX2 RX2 35 yX2_goOneRoadOn cX2_goOneRoadOn 4 none (ws_of yX2_goOneRoadOn cX2_goOneRoadOn 4 none) rm_X2_goOneRoadOn 0 0 0 := cw_V 0 ht k_856 k_858 k_15 k_68 k_859 (by decide +kernel) rfl rfl hR
def f_X2_leastDays (o : Nat) (p1 : Int32) (p2 : Int32) (M : Mem) : Option (Int32 × Mem) :=
  it1 (fun rc2 (v1 : Int32) M =>
    if v1 < 6 then
      vv (grf G1 o 4) fun x10 =>
      jn (fun (v11 : Int32) (M : Mem) =>
        st M x10 v1 6 v11 fun M =>
        rc2 (v1 + 1) M
      ) fun k12 =>
      if v1 = p1 then
        k12 0 M
      else
        k12 1000000 M
    else
      it1 (fun rc4 (v3 : Int32) M =>
        if v3 < 6 then
          bd (f_X2_goOneRoadOn o M) fun _ M =>
          rc4 (v3 + 1) M
        else
          vv (grf G1 o 4) fun x5 =>
          ld M x5 p2 6 fun x6 =>
          if x6 < 1000000 then
            vv (grf G1 o 4) fun x7 =>
            ld M x7 p2 6 fun x8 =>
            some (x8, M)
          else
            some ((-1000000005), M)
      ) fuel 1 M
  ) fuel 0 M
def rm_X2_leastDays : Room := { frames := 2, cells := 0, slots := 0, locals := 83 }
set_option maxHeartbeats 4000000 in
set_option maxRecDepth 100000 in
theorem c_X2_leastDays {l : Launch} {D : va_G} {K : Ks} {ad : Nat → Nat} {A : Nat → Prop} {tC tA tP : Nat} {kK kV : Nat → Nat} (hG : Gok G1 ad A) {o : Nat} {p1 : Int32} {p2 : Int32} (h0 : gcl G1 o = 2) {M : Mem} {r : Int32} {M' : Mem} (hf : f_X2_leastDays o p1 p2 M = some (r, M')) : Ct l (E1 A tC tA tP kK kV) D K G1 ad A yX2_leastDays (ws_of yX2_leastDays cX2_leastDays 4 (some .int)) rm_X2_leastDays .int [.ref (ad o), .int p1, .int p2] M r M' := by
  have hst : Est A (E1 A tC tA tP kK kV) := est1
  refine Ct.ofW (by decide) (Nat.le_of_ble_eq_true rfl) ?_
  intro p e s m args below meth c Q H locs ls S hK hE hP hS hl hret
  have hx := S.1
  have hb := S.2.1
  have hown := S.2.2.2.1
  have ht := S.2.2.2.2
  have hl : lv_has ls 4 [(0, .ref (ad o)), (1, .int p1), (2, .int p2)] := hl
  unfold f_X2_leastDays at hf
  refine lv_iconst (v := 0) hx hb dX2_leastDays_0 (by decide) ?_
  refine lv_istore_n (lv' := [(3, .int 0), (0, .ref (ad o)), (1, .int p1), (2, .int p2)]) hx hb dX2_leastDays_1 rfl hl (by decide) rfl (fun ls hl => ?_)
  obtain ⟨F2, hF2, hf⟩ := it1_g hf
  have L2 : ∀ (n : Nat) (v1 : Int32) (M : Mem) (H : Heap) (locs : List Loc) (ls : Array Slot), lv_has ls 4 [(0, .ref (ad o)), (1, .int p1), (2, .int p2), (3, .int v1)] → va_P D classes (gws K G1 ad M) H → va_S A s.heap H locs → it1 F2 n v1 M = some (r, M') → W p l e rm_X2_leastDays s m args below meth c H locs 0 0 Q (F0 m 2 ls []) := by
    intro n
    induction n with
    | zero => intro v1 M H locs ls hl hP hS hf; exact nomatch hf
    | succ n ih2 =>
      intro v1 M H locs ls hl hP hS hf
      obtain ⟨rc2, hrc2, hf⟩ := it1_w hf
      rw [← hrc2] at ih2
      rw [hF2] at hf
      refine lv_iload_n hx hb dX2_leastDays_2 rfl (lv_at hl 3 rfl) ?_
      refine lv_bipush (v := 6) hx hb dX2_leastDays_3 (by decide) ?_
      refine r_icmp_ge (tgt := 31) S dX2_leastDays_5 (by decide) hf (fun hf => ?_) (fun hf => ?_)
      · refine lv_iconst (v := 1) hx hb dX2_leastDays_31 (by decide) ?_
        refine lv_istore_n (lv' := [(3, .int 1), (0, .ref (ad o)), (1, .int p1), (2, .int p2)]) hx hb dX2_leastDays_32 rfl hl (by decide) rfl (fun ls hl => ?_)
        obtain ⟨F4, hF4, hf⟩ := it1_g hf
        have L4 : ∀ (n : Nat) (v3 : Int32) (M : Mem) (H : Heap) (locs : List Loc) (ls : Array Slot), lv_has ls 4 [(0, .ref (ad o)), (2, .int p2), (3, .int v3)] → va_P D classes (gws K G1 ad M) H → va_S A s.heap H locs → it1 F4 n v3 M = some (r, M') → W p l e rm_X2_leastDays s m args below meth c H locs 0 0 Q (F0 m 33 ls []) := by
          intro n
          induction n with
          | zero => intro v3 M H locs ls hl hP hS hf; exact nomatch hf
          | succ n ih4 =>
            intro v3 M H locs ls hl hP hS hf
            obtain ⟨rc4, hrc4, hf⟩ := it1_w hf
            rw [← hrc4] at ih4
            rw [hF4] at hf
            refine lv_iload_n hx hb dX2_leastDays_33 rfl (lv_at hl 2 rfl) ?_
            refine lv_bipush (v := 6) hx hb dX2_leastDays_34 (by decide) ?_
            refine r_icmp_ge (tgt := 49) S dX2_leastDays_36 (by decide) hf (fun hf => ?_) (fun hf => ?_)
            · refine lv_aload_n hx hb dX2_leastDays_49 rfl (lv_at hl 0 rfl) ?_
              refine gf_X2_21 S hK hP h0 dX2_leastDays_50 hf (fun x5 hx5 hf => ?_)
              refine lv_iload_n hx hb dX2_leastDays_53 rfl (lv_at hl 1 rfl) ?_
              refine r_iald S hK hP hx5 dX2_leastDays_54 hf (fun x6 hf => ?_)
              refine lv_ldc (v := 1000000) hx hb hown (ht _ k_855) dX2_leastDays_55 ?_
              refine r_icmp_lt (tgt := 65) S dX2_leastDays_57 (by decide) hf (fun hf => ?_) (fun hf => ?_)
              · refine lv_aload_n hx hb dX2_leastDays_65 rfl (lv_at hl 0 rfl) ?_
                refine gf_X2_21 S hK hP h0 dX2_leastDays_66 hf (fun x7 hx7 hf => ?_)
                refine lv_iload_n hx hb dX2_leastDays_69 rfl (lv_at hl 1 rfl) ?_
                refine r_iald S hK hP hx7 dX2_leastDays_70 hf (fun x8 hf => ?_)
                exact hret _ _ _ _ _ _ dX2_leastDays_71 hP hS rfl hf
              · refine lv_ldc (v := (-1000000005)) hx hb hown (ht _ k_861) dX2_leastDays_60 ?_
                refine lv_goto (tgt := 71) hx hb dX2_leastDays_62 (by decide) ?_
                exact hret _ _ _ _ _ _ dX2_leastDays_71 hP hS rfl hf
            · refine lv_aload_n hx hb dX2_leastDays_39 rfl (lv_at hl 0 rfl) ?_
              refine r_callVv (As := []) (rest := []) S hK hE hst hP hS h0 (by decide) rfl (cw_X2_35 ht ⟨Nat.le_of_ble_eq_true rfl, Nat.le_of_ble_eq_true rfl⟩) rfl hl.1 rfl (Nat.le_of_ble_eq_true rfl) dX2_leastDays_40 z2 (fun _ _ h => c_X2_goOneRoadOn hG  h0 h) hf (fun x9 M H locs hP hS hf => ?_)
              refine lv_iinc (v := (v3 + 1)) (lv' := [(3, .int (v3 + 1)), (0, .ref (ad o)), (2, .int p2)]) hx hb dX2_leastDays_43 hl (k := 2) rfl rfl (by decide) rfl (fun ls hl => ?_)
              refine lv_goto (tgt := 33) hx hb dX2_leastDays_46 (by decide) ?_
              exact ih4 (v3 + 1) M H locs ls (lv_sub hl [1, 2, 0] rfl) hP hS hf
        exact L4 _ 1 M H locs ls (lv_sub hl [1, 3, 0] rfl) hP hS hf
      · refine lv_aload_n hx hb dX2_leastDays_8 rfl (lv_at hl 0 rfl) ?_
        refine gf_X2_21 S hK hP h0 dX2_leastDays_9 hf (fun x10 hx10 hf => ?_)
        refine lv_iload_n hx hb dX2_leastDays_12 rfl (lv_at hl 3 rfl) ?_
        refine lv_iload_n hx hb dX2_leastDays_13 rfl (lv_at hl 3 rfl) ?_
        refine lv_iload_n hx hb dX2_leastDays_14 rfl (lv_at hl 1 rfl) ?_
        obtain ⟨k12, hk12, hf⟩ := jn_w hf
        have J12 : ∀ (v11 : Int32) (M : Mem) (H : Heap) (locs : List Loc) (ls : Array Slot), lv_has ls 4 [(0, .ref (ad o)), (1, .int p1), (2, .int p2), (3, .int v1)] → va_P D classes (gws K G1 ad M) H → va_S A s.heap H locs → k12 v11 M = some (r, M') → W p l e rm_X2_leastDays s m args below meth c H locs 0 0 Q (F0 m 24 ls [.int v11, .int v1, .ref (ad x10)]) := by
          intro v11 M H locs ls hl hP hS hf
          rw [hk12] at hf
          refine r_iast S hK hG hP hS hx10 dX2_leastDays_24 hf (fun M H locs hP hS hf => ?_)
          refine lv_iinc (v := (v1 + 1)) (lv' := [(3, .int (v1 + 1)), (0, .ref (ad o)), (1, .int p1), (2, .int p2)]) hx hb dX2_leastDays_25 hl (k := 3) rfl rfl (by decide) rfl (fun ls hl => ?_)
          refine lv_goto (tgt := 2) hx hb dX2_leastDays_28 (by decide) ?_
          exact ih2 (v1 + 1) M H locs ls (lv_sub hl [1, 2, 3, 0] rfl) hP hS hf
        refine r_icmp_ne (tgt := 22) S dX2_leastDays_15 (by decide) hf (fun hf => ?_) (fun hf => ?_)
        · refine lv_ldc (v := 1000000) hx hb hown (ht _ k_855) dX2_leastDays_22 ?_
          exact J12 1000000 M H locs ls (lv_sub hl [0, 1, 2, 3] rfl) hP hS hf
        · refine lv_iconst (v := 0) hx hb dX2_leastDays_18 (by decide) ?_
          refine lv_goto (tgt := 24) hx hb dX2_leastDays_19 (by decide) ?_
          exact J12 0 M H locs ls (lv_sub hl [0, 1, 2, 3] rfl) hP hS hf
  exact L2 _ 0 M H locs ls (lv_sub hl [1, 2, 3, 0] rfl) hP hS hf
def f_X2_write (o : Nat) (p1 : Int32) (p2 : Int32) (M : Mem) : Option (Int32 × Mem) :=
  it1 (fun rc2 (v1 : Int32) M =>
    vv (M o 1) fun x3 =>
    if v1 < x3 then
      vv (grf G1 o 2) fun x11 =>
      ld M x11 v1 20 fun x12 =>
      if x12 = p1 then
        some ((-1000000002), M)
      else
        rc2 (v1 + 1) M
    else
      vv (M o 1) fun x4 =>
      if x4 < 20 then
        vv (grf G1 o 2) fun x5 =>
        vv (M o 1) fun x6 =>
        st M x5 x6 20 p1 fun M =>
        vv (grf G1 o 3) fun x7 =>
        vv (M o 1) fun x8 =>
        st M x7 x8 20 p2 fun M =>
        vv (M o 1) fun x9 =>
        mm (up M o 1 (x9 + 1)) fun M =>
        vv (M o 1) fun x10 =>
        some (x10, M)
      else
        some ((-1000000003), M)
  ) fuel 0 M
def rm_X2_write : Room := { frames := 0, cells := 0, slots := 0, locals := 0 }
set_option maxHeartbeats 4000000 in
set_option maxRecDepth 100000 in
theorem c_X2_write {l : Launch} {D : va_G} {K : Ks} {ad : Nat → Nat} {A : Nat → Prop} {tC tA tP : Nat} {kK kV : Nat → Nat} (hG : Gok G1 ad A) {o : Nat} {p1 : Int32} {p2 : Int32} (h0 : gcl G1 o = 2) {M : Mem} {r : Int32} {M' : Mem} (hf : f_X2_write o p1 p2 M = some (r, M')) : Ct l (E1 A tC tA tP kK kV) D K G1 ad A yX2_write (ws_of yX2_write cX2_write 4 (some .int)) rm_X2_write .int [.ref (ad o), .int p1, .int p2] M r M' := by
  have hst : Est A (E1 A tC tA tP kK kV) := est1
  refine Ct.ofW (by decide) (Nat.le_of_ble_eq_true rfl) ?_
  intro p e s m args below meth c Q H locs ls S hK hE hP hS hl hret
  have hx := S.1
  have hb := S.2.1
  have hown := S.2.2.2.1
  have ht := S.2.2.2.2
  have hl : lv_has ls 4 [(0, .ref (ad o)), (1, .int p1), (2, .int p2)] := hl
  unfold f_X2_write at hf
  refine lv_iconst (v := 0) hx hb dX2_write_0 (by decide) ?_
  refine lv_istore_n (lv' := [(3, .int 0), (0, .ref (ad o)), (1, .int p1), (2, .int p2)]) hx hb dX2_write_1 rfl hl (by decide) rfl (fun ls hl => ?_)
  obtain ⟨F2, hF2, hf⟩ := it1_g hf
  have L2 : ∀ (n : Nat) (v1 : Int32) (M : Mem) (H : Heap) (locs : List Loc) (ls : Array Slot), lv_has ls 4 [(0, .ref (ad o)), (1, .int p1), (2, .int p2), (3, .int v1)] → va_P D classes (gws K G1 ad M) H → va_S A s.heap H locs → it1 F2 n v1 M = some (r, M') → W p l e rm_X2_write s m args below meth c H locs 0 0 Q (F0 m 2 ls []) := by
    intro n
    induction n with
    | zero => intro v1 M H locs ls hl hP hS hf; exact nomatch hf
    | succ n ih2 =>
      intro v1 M H locs ls hl hP hS hf
      obtain ⟨rc2, hrc2, hf⟩ := it1_w hf
      rw [← hrc2] at ih2
      rw [hF2] at hf
      refine lv_iload_n hx hb dX2_write_2 rfl (lv_at hl 3 rfl) ?_
      refine lv_aload_n hx hb dX2_write_3 rfl (lv_at hl 0 rfl) ?_
      refine gf_X2_30 S hK hP h0 dX2_write_4 hf (fun x3 hf => ?_)
      refine r_icmp_ge (tgt := 29) S dX2_write_7 (by decide) hf (fun hf => ?_) (fun hf => ?_)
      · refine lv_aload_n hx hb dX2_write_29 rfl (lv_at hl 0 rfl) ?_
        refine gf_X2_30 S hK hP h0 dX2_write_30 hf (fun x4 hf => ?_)
        refine lv_bipush (v := 20) hx hb dX2_write_33 (by decide) ?_
        refine r_icmp_lt (tgt := 41) S dX2_write_35 (by decide) hf (fun hf => ?_) (fun hf => ?_)
        · refine lv_aload_n hx hb dX2_write_41 rfl (lv_at hl 0 rfl) ?_
          refine gf_X2_15 S hK hP h0 dX2_write_42 hf (fun x5 hx5 hf => ?_)
          refine lv_aload_n hx hb dX2_write_45 rfl (lv_at hl 0 rfl) ?_
          refine gf_X2_30 S hK hP h0 dX2_write_46 hf (fun x6 hf => ?_)
          refine lv_iload_n hx hb dX2_write_49 rfl (lv_at hl 1 rfl) ?_
          refine r_iast S hK hG hP hS hx5 dX2_write_50 hf (fun M H locs hP hS hf => ?_)
          refine lv_aload_n hx hb dX2_write_51 rfl (lv_at hl 0 rfl) ?_
          refine gf_X2_18 S hK hP h0 dX2_write_52 hf (fun x7 hx7 hf => ?_)
          refine lv_aload_n hx hb dX2_write_55 rfl (lv_at hl 0 rfl) ?_
          refine gf_X2_30 S hK hP h0 dX2_write_56 hf (fun x8 hf => ?_)
          refine lv_iload_n hx hb dX2_write_59 rfl (lv_at hl 2 rfl) ?_
          refine r_iast S hK hG hP hS hx7 dX2_write_60 hf (fun M H locs hP hS hf => ?_)
          refine lv_aload_n hx hb dX2_write_61 rfl (lv_at hl 0 rfl) ?_
          refine lv_dup hx hb dX2_write_62 rfl ?_
          refine gf_X2_30 S hK hP h0 dX2_write_63 hf (fun x9 hf => ?_)
          refine lv_iconst (v := 1) hx hb dX2_write_66 (by decide) ?_
          refine lv_iadd hx hb dX2_write_67 ?_
          refine pf_X2_30 S hK hG hP hS h0 dX2_write_68 hf (fun M H locs hP hS hf => ?_)
          refine lv_aload_n hx hb dX2_write_71 rfl (lv_at hl 0 rfl) ?_
          refine gf_X2_30 S hK hP h0 dX2_write_72 hf (fun x10 hf => ?_)
          exact hret _ _ _ _ _ _ dX2_write_75 hP hS rfl hf
        · refine lv_ldc (v := (-1000000003)) hx hb hown (ht _ k_871) dX2_write_38 ?_
          exact hret _ _ _ _ _ _ dX2_write_40 hP hS rfl hf
      · refine lv_aload_n hx hb dX2_write_10 rfl (lv_at hl 0 rfl) ?_
        refine gf_X2_15 S hK hP h0 dX2_write_11 hf (fun x11 hx11 hf => ?_)
        refine lv_iload_n hx hb dX2_write_14 rfl (lv_at hl 3 rfl) ?_
        refine r_iald S hK hP hx11 dX2_write_15 hf (fun x12 hf => ?_)
        refine lv_iload_n hx hb dX2_write_16 rfl (lv_at hl 1 rfl) ?_
        refine r_icmp_ne (tgt := 23) S dX2_write_17 (by decide) hf (fun hf => ?_) (fun hf => ?_)
        · refine lv_iinc (v := (v1 + 1)) (lv' := [(3, .int (v1 + 1)), (0, .ref (ad o)), (1, .int p1), (2, .int p2)]) hx hb dX2_write_23 hl (k := 3) rfl rfl (by decide) rfl (fun ls hl => ?_)
          refine lv_goto (tgt := 2) hx hb dX2_write_26 (by decide) ?_
          exact ih2 (v1 + 1) M H locs ls (lv_sub hl [1, 2, 3, 0] rfl) hP hS hf
        · refine lv_ldc (v := (-1000000002)) hx hb hown (ht _ k_870) dX2_write_20 ?_
          exact hret _ _ _ _ _ _ dX2_write_22 hP hS rfl hf
  exact L2 _ 0 M H locs ls (lv_sub hl [1, 2, 3, 0] rfl) hP hS hf
theorem cw_X2_51 {R : Room} {s : State} {args : Array Value} (ht : ∀ w ∈ Tw, w.before args s = true) (hR : rm_X2_leastDays.frames + 1 ≤ R.frames ∧ 8 + (4 + 11) + rm_X2_leastDays.locals ≤ R.locals) : CallW R s args RX2 RX2 51 yX2_leastDays cX2_leastDays 4 (some .int) (ws_of yX2_leastDays cX2_leastDays 4 (some .int)) rm_X2_leastDays 0 0 2 := cw_V 2 ht k_884 k_852 k_853 k_68 k_854 (by decide +kernel) rfl rfl hR
def f_X2_canGo (o : Nat) (p1 : Int32) (p2 : Int32) (p3 : Int32) (M : Mem) : Option (Int32 × Mem) :=
  bd (f_X2_leastDays o p1 p2 M) fun x1 M =>
  if x1 = (-1000000005) then
    some (0, M)
  else
    if p3 < x1 then
      some (0, M)
    else
      some (1, M)
def rm_X2_canGo : Room := { frames := 3, cells := 0, slots := 0, locals := 106 }
set_option maxHeartbeats 4000000 in
set_option maxRecDepth 100000 in
theorem c_X2_canGo {l : Launch} {D : va_G} {K : Ks} {ad : Nat → Nat} {A : Nat → Prop} {tC tA tP : Nat} {kK kV : Nat → Nat} (hG : Gok G1 ad A) {o : Nat} {p1 : Int32} {p2 : Int32} {p3 : Int32} (h0 : gcl G1 o = 2) {M : Mem} {r : Int32} {M' : Mem} (hf : f_X2_canGo o p1 p2 p3 M = some (r, M')) : Ct l (E1 A tC tA tP kK kV) D K G1 ad A yX2_canGo (ws_of yX2_canGo cX2_canGo 5 (some .boolean)) rm_X2_canGo .boolean [.ref (ad o), .int p1, .int p2, .int p3] M r M' := by
  have hst : Est A (E1 A tC tA tP kK kV) := est1
  refine Ct.ofW (by decide) (Nat.le_of_ble_eq_true rfl) ?_
  intro p e s m args below meth c Q H locs ls S hK hE hP hS hl hret
  have hx := S.1
  have hb := S.2.1
  have hown := S.2.2.2.1
  have ht := S.2.2.2.2
  have hl : lv_has ls 5 [(0, .ref (ad o)), (1, .int p1), (2, .int p2), (3, .int p3)] := hl
  unfold f_X2_canGo at hf
  refine lv_aload_n hx hb dX2_canGo_0 rfl (lv_at hl 0 rfl) ?_
  refine lv_iload_n hx hb dX2_canGo_1 rfl (lv_at hl 1 rfl) ?_
  refine lv_iload_n hx hb dX2_canGo_2 rfl (lv_at hl 2 rfl) ?_
  refine r_callV (As := [.int p1, .int p2]) (rest := []) S hK hE hst hP hS h0 (by decide) rfl (cw_X2_51 ht ⟨Nat.le_of_ble_eq_true rfl, Nat.le_of_ble_eq_true rfl⟩) rfl hl.1 rfl (Nat.le_of_ble_eq_true rfl) dX2_canGo_3 z2 (fun _ _ h => c_X2_leastDays hG  h0 h) hf (fun x1 M H locs hP hS bx1 hf => ?_)
  refine lv_istore (lv' := [(4, .int x1), (0, .ref (ad o)), (1, .int p1), (2, .int p2), (3, .int p3)]) hx hb dX2_canGo_6 hl (by decide) rfl (fun ls hl => ?_)
  refine lv_iload hx hb dX2_canGo_8 (lv_at hl 0 rfl) ?_
  refine lv_ldc (v := (-1000000005)) hx hb hown (ht _ k_861) dX2_canGo_10 ?_
  refine r_icmp_eq (tgt := 25) S dX2_canGo_12 (by decide) hf (fun hf => ?_) (fun hf => ?_)
  · refine lv_iconst (v := 0) hx hb dX2_canGo_25 (by decide) ?_
    exact hret _ _ _ _ _ _ dX2_canGo_26 hP hS rfl hf
  · refine lv_iload_n hx hb dX2_canGo_15 rfl (lv_at hl 4 rfl) ?_
    refine lv_iload hx hb dX2_canGo_16 (lv_at hl 0 rfl) ?_
    refine r_icmp_lt (tgt := 25) S dX2_canGo_18 (by decide) hf (fun hf => ?_) (fun hf => ?_)
    · refine lv_iconst (v := 0) hx hb dX2_canGo_25 (by decide) ?_
      exact hret _ _ _ _ _ _ dX2_canGo_26 hP hS rfl hf
    · refine lv_iconst (v := 1) hx hb dX2_canGo_21 (by decide) ?_
      refine lv_goto (tgt := 26) hx hb dX2_canGo_22 (by decide) ?_
      exact hret _ _ _ _ _ _ dX2_canGo_26 hP hS rfl hf
theorem cw_X2_47 {R : Room} {s : State} {args : Array Value} (ht : ∀ w ∈ Tw, w.before args s = true) (hR : rm_X2_canGo.frames + 1 ≤ R.frames ∧ 8 + (5 + 11) + rm_X2_canGo.locals ≤ R.locals) : CallW R s args RX2 RX2 47 yX2_canGo cX2_canGo 5 (some .boolean) (ws_of yX2_canGo cX2_canGo 5 (some .boolean)) rm_X2_canGo 0 0 3 := cw_V 3 ht k_880 k_882 k_16 k_68 k_883 (by decide +kernel) rfl rfl hR
def f_X2_allows (o : Nat) (p1 : Int32) (p2 : Int32) (p3 : Int32) (M : Mem) : Option (Int32 × Mem) :=
  it3 (fun rc4 (v1 : Int32) (v2 : Int32) (v3 : Int32) M =>
    vv (M o 1) fun x5 =>
    if v3 < x5 then
      vv (grf G1 o 2) fun x17 =>
      ld M x17 v3 20 fun x18 =>
      jn (fun (M : Mem) =>
        vv (grf G1 o 2) fun x20 =>
        ld M x20 v3 20 fun x21 =>
        jn (fun (v22 : Int32) (M : Mem) =>
          vv (grf G1 o 2) fun x24 =>
          ld M x24 v3 20 fun x25 =>
          if p3 < x25 then
            if v2 < 0 then
              rc4 v22 v3 (v3 + 1) M
            else
              vv (grf G1 o 2) fun x26 =>
              ld M x26 v3 20 fun x27 =>
              vv (grf G1 o 2) fun x28 =>
              ld M x28 v2 20 fun x29 =>
              if x27 < x29 then
                rc4 v22 v3 (v3 + 1) M
              else
                rc4 v22 v2 (v3 + 1) M
          else
            rc4 v22 v2 (v3 + 1) M
        ) fun k23 =>
        if p2 < x21 then
          k23 v1 M
        else
          if v1 < 0 then
            k23 v3 M
          else
            vv (grf G1 o 2) fun x30 =>
            ld M x30 v3 20 fun x31 =>
            vv (grf G1 o 2) fun x32 =>
            ld M x32 v1 20 fun x33 =>
            if x33 < x31 then
              k23 v3 M
            else
              k23 v1 M
      ) fun k19 =>
      if x18 < p2 then
        k19 M
      else
        vv (grf G1 o 2) fun x34 =>
        ld M x34 v3 20 fun x35 =>
        if p3 < x35 then
          k19 M
        else
          vv (grf G1 o 3) fun x36 =>
          ld M x36 v3 20 fun x37 =>
          if x37 = p1 then
            k19 M
          else
            some (0, M)
    else
      jn (fun (M : Mem) =>
        if v2 < 0 then
          some (1, M)
        else
          vv (grf G1 o 3) fun x7 =>
          ld M x7 v2 20 fun x8 =>
          vv (grf G1 o 2) fun x9 =>
          ld M x9 v2 20 fun x10 =>
          bd (f_X2_canGo o p1 x8 (x10 - p3) M) fun x11 M =>
          if x11 = 0 then
            some (0, M)
          else
            some (1, M)
      ) fun k6 =>
      if v1 < 0 then
        k6 M
      else
        vv (grf G1 o 3) fun x12 =>
        ld M x12 v1 20 fun x13 =>
        vv (grf G1 o 2) fun x14 =>
        ld M x14 v1 20 fun x15 =>
        bd (f_X2_canGo o x13 p1 (p2 - x15) M) fun x16 M =>
        if x16 = 0 then
          some (0, M)
        else
          k6 M
  ) fuel (-1) (-1) 0 M
def rm_X2_allows : Room := { frames := 4, cells := 0, slots := 0, locals := 130 }
set_option maxHeartbeats 4000000 in
set_option maxRecDepth 100000 in
theorem c_X2_allows {l : Launch} {D : va_G} {K : Ks} {ad : Nat → Nat} {A : Nat → Prop} {tC tA tP : Nat} {kK kV : Nat → Nat} (hG : Gok G1 ad A) {o : Nat} {p1 : Int32} {p2 : Int32} {p3 : Int32} (h0 : gcl G1 o = 2) {M : Mem} {r : Int32} {M' : Mem} (hf : f_X2_allows o p1 p2 p3 M = some (r, M')) : Ct l (E1 A tC tA tP kK kV) D K G1 ad A yX2_allows (ws_of yX2_allows cX2_allows 7 (some .boolean)) rm_X2_allows .boolean [.ref (ad o), .int p1, .int p2, .int p3] M r M' := by
  have hst : Est A (E1 A tC tA tP kK kV) := est1
  refine Ct.ofW (by decide) (Nat.le_of_ble_eq_true rfl) ?_
  intro p e s m args below meth c Q H locs ls S hK hE hP hS hl hret
  have hx := S.1
  have hb := S.2.1
  have hown := S.2.2.2.1
  have ht := S.2.2.2.2
  have hl : lv_has ls 7 [(0, .ref (ad o)), (1, .int p1), (2, .int p2), (3, .int p3)] := hl
  unfold f_X2_allows at hf
  refine lv_iconst (v := (-1)) hx hb dX2_allows_0 (by decide) ?_
  refine lv_istore (lv' := [(4, .int (-1)), (0, .ref (ad o)), (1, .int p1), (2, .int p2), (3, .int p3)]) hx hb dX2_allows_1 hl (by decide) rfl (fun ls hl => ?_)
  refine lv_iconst (v := (-1)) hx hb dX2_allows_3 (by decide) ?_
  refine lv_istore (lv' := [(5, .int (-1)), (4, .int (-1)), (0, .ref (ad o)), (1, .int p1), (2, .int p2), (3, .int p3)]) hx hb dX2_allows_4 hl (by decide) rfl (fun ls hl => ?_)
  refine lv_iconst (v := 0) hx hb dX2_allows_6 (by decide) ?_
  refine lv_istore (lv' := [(6, .int 0), (5, .int (-1)), (4, .int (-1)), (0, .ref (ad o)), (1, .int p1), (2, .int p2), (3, .int p3)]) hx hb dX2_allows_7 hl (by decide) rfl (fun ls hl => ?_)
  obtain ⟨F4, hF4, hf⟩ := it3_g hf
  have L4 : ∀ (n : Nat) (v1 : Int32) (v2 : Int32) (v3 : Int32) (M : Mem) (H : Heap) (locs : List Loc) (ls : Array Slot), lv_has ls 7 [(0, .ref (ad o)), (1, .int p1), (2, .int p2), (3, .int p3), (4, .int v1), (5, .int v2), (6, .int v3)] → va_P D classes (gws K G1 ad M) H → va_S A s.heap H locs → it3 F4 n v1 v2 v3 M = some (r, M') → W p l e rm_X2_allows s m args below meth c H locs 0 0 Q (F0 m 9 ls []) := by
    intro n
    induction n with
    | zero => intro v1 v2 v3 M H locs ls hl hP hS hf; exact nomatch hf
    | succ n ih4 =>
      intro v1 v2 v3 M H locs ls hl hP hS hf
      obtain ⟨rc4, hrc4, hf⟩ := it3_w hf
      rw [← hrc4] at ih4
      rw [hF4] at hf
      refine lv_iload hx hb dX2_allows_9 (lv_at hl 6 rfl) ?_
      refine lv_aload_n hx hb dX2_allows_11 rfl (lv_at hl 0 rfl) ?_
      refine gf_X2_30 S hK hP h0 dX2_allows_12 hf (fun x5 hf => ?_)
      refine r_icmp_ge (tgt := 133) S dX2_allows_15 (by decide) hf (fun hf => ?_) (fun hf => ?_)
      · refine lv_iload hx hb dX2_allows_133 (lv_at hl 4 rfl) ?_
        obtain ⟨k6, hk6, hf⟩ := jn_w hf
        have J6 : ∀ (M : Mem) (H : Heap) (locs : List Loc) (ls : Array Slot), lv_has ls 7 [(0, .ref (ad o)), (1, .int p1), (3, .int p3), (5, .int v2)] → va_P D classes (gws K G1 ad M) H → va_S A s.heap H locs → k6 M = some (r, M') → W p l e rm_X2_allows s m args below meth c H locs 0 0 Q (F0 m 164 ls []) := by
          intro M H locs ls hl hP hS hf
          rw [hk6] at hf
          refine lv_iload hx hb dX2_allows_164 (lv_at hl 3 rfl) ?_
          refine r_if_lt (tgt := 193) S dX2_allows_166 (by decide) hf (fun hf => ?_) (fun hf => ?_)
          · refine lv_iconst (v := 1) hx hb dX2_allows_193 (by decide) ?_
            refine lv_goto (tgt := 198) hx hb dX2_allows_194 (by decide) ?_
            exact hret _ _ _ _ _ _ dX2_allows_198 hP hS rfl hf
          · refine lv_aload_n hx hb dX2_allows_169 rfl (lv_at hl 0 rfl) ?_
            refine lv_iload_n hx hb dX2_allows_170 rfl (lv_at hl 1 rfl) ?_
            refine lv_aload_n hx hb dX2_allows_171 rfl (lv_at hl 0 rfl) ?_
            refine gf_X2_18 S hK hP h0 dX2_allows_172 hf (fun x7 hx7 hf => ?_)
            refine lv_iload hx hb dX2_allows_175 (lv_at hl 3 rfl) ?_
            refine r_iald S hK hP hx7 dX2_allows_177 hf (fun x8 hf => ?_)
            refine lv_aload_n hx hb dX2_allows_178 rfl (lv_at hl 0 rfl) ?_
            refine gf_X2_15 S hK hP h0 dX2_allows_179 hf (fun x9 hx9 hf => ?_)
            refine lv_iload hx hb dX2_allows_182 (lv_at hl 3 rfl) ?_
            refine r_iald S hK hP hx9 dX2_allows_184 hf (fun x10 hf => ?_)
            refine lv_iload_n hx hb dX2_allows_185 rfl (lv_at hl 2 rfl) ?_
            refine lv_isub hx hb dX2_allows_186 ?_
            refine r_callV (As := [.int p1, .int x8, .int (x10 - p3)]) (rest := []) S hK hE hst hP hS h0 (by decide) rfl (cw_X2_47 ht ⟨Nat.le_of_ble_eq_true rfl, Nat.le_of_ble_eq_true rfl⟩) rfl hl.1 rfl (Nat.le_of_ble_eq_true rfl) dX2_allows_187 z2 (fun _ _ h => c_X2_canGo hG  h0 h) hf (fun x11 M H locs hP hS bx11 hf => ?_)
            refine r_if_eq (tgt := 197) S dX2_allows_190 (by decide) hf (fun hf => ?_) (fun hf => ?_)
            · refine lv_iconst (v := 0) hx hb dX2_allows_197 (by decide) ?_
              exact hret _ _ _ _ _ _ dX2_allows_198 hP hS rfl hf
            · refine lv_iconst (v := 1) hx hb dX2_allows_193 (by decide) ?_
              refine lv_goto (tgt := 198) hx hb dX2_allows_194 (by decide) ?_
              exact hret _ _ _ _ _ _ dX2_allows_198 hP hS rfl hf
        refine r_if_lt (tgt := 164) S dX2_allows_135 (by decide) hf (fun hf => ?_) (fun hf => ?_)
        · exact J6 M H locs ls (lv_sub hl [0, 1, 3, 5] rfl) hP hS hf
        · refine lv_aload_n hx hb dX2_allows_138 rfl (lv_at hl 0 rfl) ?_
          refine lv_aload_n hx hb dX2_allows_139 rfl (lv_at hl 0 rfl) ?_
          refine gf_X2_18 S hK hP h0 dX2_allows_140 hf (fun x12 hx12 hf => ?_)
          refine lv_iload hx hb dX2_allows_143 (lv_at hl 4 rfl) ?_
          refine r_iald S hK hP hx12 dX2_allows_145 hf (fun x13 hf => ?_)
          refine lv_iload_n hx hb dX2_allows_146 rfl (lv_at hl 1 rfl) ?_
          refine lv_iload_n hx hb dX2_allows_147 rfl (lv_at hl 2 rfl) ?_
          refine lv_aload_n hx hb dX2_allows_148 rfl (lv_at hl 0 rfl) ?_
          refine gf_X2_15 S hK hP h0 dX2_allows_149 hf (fun x14 hx14 hf => ?_)
          refine lv_iload hx hb dX2_allows_152 (lv_at hl 4 rfl) ?_
          refine r_iald S hK hP hx14 dX2_allows_154 hf (fun x15 hf => ?_)
          refine lv_isub hx hb dX2_allows_155 ?_
          refine r_callV (As := [.int x13, .int p1, .int (p2 - x15)]) (rest := []) S hK hE hst hP hS h0 (by decide) rfl (cw_X2_47 ht ⟨Nat.le_of_ble_eq_true rfl, Nat.le_of_ble_eq_true rfl⟩) rfl hl.1 rfl (Nat.le_of_ble_eq_true rfl) dX2_allows_156 z2 (fun _ _ h => c_X2_canGo hG  h0 h) hf (fun x16 M H locs hP hS bx16 hf => ?_)
          refine r_if_ne (tgt := 164) S dX2_allows_159 (by decide) hf (fun hf => ?_) (fun hf => ?_)
          · exact J6 M H locs ls (lv_sub hl [0, 1, 3, 5] rfl) hP hS hf
          · refine lv_iconst (v := 0) hx hb dX2_allows_162 (by decide) ?_
            exact hret _ _ _ _ _ _ dX2_allows_163 hP hS rfl hf
      · refine lv_aload_n hx hb dX2_allows_18 rfl (lv_at hl 0 rfl) ?_
        refine gf_X2_15 S hK hP h0 dX2_allows_19 hf (fun x17 hx17 hf => ?_)
        refine lv_iload hx hb dX2_allows_22 (lv_at hl 6 rfl) ?_
        refine r_iald S hK hP hx17 dX2_allows_24 hf (fun x18 hf => ?_)
        refine lv_iload_n hx hb dX2_allows_25 rfl (lv_at hl 2 rfl) ?_
        obtain ⟨k19, hk19, hf⟩ := jn_w hf
        have J19 : ∀ (M : Mem) (H : Heap) (locs : List Loc) (ls : Array Slot), lv_has ls 7 [(0, .ref (ad o)), (1, .int p1), (2, .int p2), (3, .int p3), (4, .int v1), (5, .int v2), (6, .int v3)] → va_P D classes (gws K G1 ad M) H → va_S A s.heap H locs → k19 M = some (r, M') → W p l e rm_X2_allows s m args below meth c H locs 0 0 Q (F0 m 53 ls []) := by
          intro M H locs ls hl hP hS hf
          rw [hk19] at hf
          refine lv_aload_n hx hb dX2_allows_53 rfl (lv_at hl 0 rfl) ?_
          refine gf_X2_15 S hK hP h0 dX2_allows_54 hf (fun x20 hx20 hf => ?_)
          refine lv_iload hx hb dX2_allows_57 (lv_at hl 6 rfl) ?_
          refine r_iald S hK hP hx20 dX2_allows_59 hf (fun x21 hf => ?_)
          refine lv_iload_n hx hb dX2_allows_60 rfl (lv_at hl 2 rfl) ?_
          obtain ⟨k23, hk23, hf⟩ := jn_w hf
          have J23 : ∀ (v22 : Int32) (M : Mem) (H : Heap) (locs : List Loc) (ls : Array Slot), lv_has ls 7 [(0, .ref (ad o)), (1, .int p1), (2, .int p2), (3, .int p3), (4, .int v22), (5, .int v2), (6, .int v3)] → va_P D classes (gws K G1 ad M) H → va_S A s.heap H locs → k23 v22 M = some (r, M') → W p l e rm_X2_allows s m args below meth c H locs 0 0 Q (F0 m 90 ls []) := by
            intro v22 M H locs ls hl hP hS hf
            rw [hk23] at hf
            refine lv_aload_n hx hb dX2_allows_90 rfl (lv_at hl 0 rfl) ?_
            refine gf_X2_15 S hK hP h0 dX2_allows_91 hf (fun x24 hx24 hf => ?_)
            refine lv_iload hx hb dX2_allows_94 (lv_at hl 6 rfl) ?_
            refine r_iald S hK hP hx24 dX2_allows_96 hf (fun x25 hf => ?_)
            refine lv_iload_n hx hb dX2_allows_97 rfl (lv_at hl 3 rfl) ?_
            refine r_icmp_le (tgt := 127) S dX2_allows_98 (by decide) hf (fun hf => ?_) (fun hf => ?_)
            · refine lv_iinc (v := (v3 + 1)) (lv' := [(6, .int (v3 + 1)), (0, .ref (ad o)), (1, .int p1), (2, .int p2), (3, .int p3), (4, .int v22), (5, .int v2)]) hx hb dX2_allows_127 hl (k := 6) rfl rfl (by decide) rfl (fun ls hl => ?_)
              refine lv_goto (tgt := 9) hx hb dX2_allows_130 (by decide) ?_
              exact ih4 v22 v2 (v3 + 1) M H locs ls (lv_sub hl [1, 2, 3, 4, 5, 6, 0] rfl) hP hS hf
            · refine lv_iload hx hb dX2_allows_101 (lv_at hl 5 rfl) ?_
              refine r_if_lt (tgt := 123) S dX2_allows_103 (by decide) hf (fun hf => ?_) (fun hf => ?_)
              · refine lv_iload hx hb dX2_allows_123 (lv_at hl 6 rfl) ?_
                refine lv_istore (lv' := [(5, .int v3), (0, .ref (ad o)), (1, .int p1), (2, .int p2), (3, .int p3), (4, .int v22), (6, .int v3)]) hx hb dX2_allows_125 hl (by decide) rfl (fun ls hl => ?_)
                refine lv_iinc (v := (v3 + 1)) (lv' := [(6, .int (v3 + 1)), (5, .int v3), (0, .ref (ad o)), (1, .int p1), (2, .int p2), (3, .int p3), (4, .int v22)]) hx hb dX2_allows_127 hl (k := 6) rfl rfl (by decide) rfl (fun ls hl => ?_)
                refine lv_goto (tgt := 9) hx hb dX2_allows_130 (by decide) ?_
                exact ih4 v22 v3 (v3 + 1) M H locs ls (lv_sub hl [2, 3, 4, 5, 6, 1, 0] rfl) hP hS hf
              · refine lv_aload_n hx hb dX2_allows_106 rfl (lv_at hl 0 rfl) ?_
                refine gf_X2_15 S hK hP h0 dX2_allows_107 hf (fun x26 hx26 hf => ?_)
                refine lv_iload hx hb dX2_allows_110 (lv_at hl 6 rfl) ?_
                refine r_iald S hK hP hx26 dX2_allows_112 hf (fun x27 hf => ?_)
                refine lv_aload_n hx hb dX2_allows_113 rfl (lv_at hl 0 rfl) ?_
                refine gf_X2_15 S hK hP h0 dX2_allows_114 hf (fun x28 hx28 hf => ?_)
                refine lv_iload hx hb dX2_allows_117 (lv_at hl 5 rfl) ?_
                refine r_iald S hK hP hx28 dX2_allows_119 hf (fun x29 hf => ?_)
                refine r_icmp_ge (tgt := 127) S dX2_allows_120 (by decide) hf (fun hf => ?_) (fun hf => ?_)
                · refine lv_iinc (v := (v3 + 1)) (lv' := [(6, .int (v3 + 1)), (0, .ref (ad o)), (1, .int p1), (2, .int p2), (3, .int p3), (4, .int v22), (5, .int v2)]) hx hb dX2_allows_127 hl (k := 6) rfl rfl (by decide) rfl (fun ls hl => ?_)
                  refine lv_goto (tgt := 9) hx hb dX2_allows_130 (by decide) ?_
                  exact ih4 v22 v2 (v3 + 1) M H locs ls (lv_sub hl [1, 2, 3, 4, 5, 6, 0] rfl) hP hS hf
                · refine lv_iload hx hb dX2_allows_123 (lv_at hl 6 rfl) ?_
                  refine lv_istore (lv' := [(5, .int v3), (0, .ref (ad o)), (1, .int p1), (2, .int p2), (3, .int p3), (4, .int v22), (6, .int v3)]) hx hb dX2_allows_125 hl (by decide) rfl (fun ls hl => ?_)
                  refine lv_iinc (v := (v3 + 1)) (lv' := [(6, .int (v3 + 1)), (5, .int v3), (0, .ref (ad o)), (1, .int p1), (2, .int p2), (3, .int p3), (4, .int v22)]) hx hb dX2_allows_127 hl (k := 6) rfl rfl (by decide) rfl (fun ls hl => ?_)
                  refine lv_goto (tgt := 9) hx hb dX2_allows_130 (by decide) ?_
                  exact ih4 v22 v3 (v3 + 1) M H locs ls (lv_sub hl [2, 3, 4, 5, 6, 1, 0] rfl) hP hS hf
          refine r_icmp_gt (tgt := 90) S dX2_allows_61 (by decide) hf (fun hf => ?_) (fun hf => ?_)
          · exact J23 v1 M H locs ls (lv_sub hl [0, 1, 2, 3, 4, 5, 6] rfl) hP hS hf
          · refine lv_iload hx hb dX2_allows_64 (lv_at hl 4 rfl) ?_
            refine r_if_lt (tgt := 86) S dX2_allows_66 (by decide) hf (fun hf => ?_) (fun hf => ?_)
            · refine lv_iload hx hb dX2_allows_86 (lv_at hl 6 rfl) ?_
              refine lv_istore (lv' := [(4, .int v3), (0, .ref (ad o)), (1, .int p1), (2, .int p2), (3, .int p3), (5, .int v2), (6, .int v3)]) hx hb dX2_allows_88 hl (by decide) rfl (fun ls hl => ?_)
              exact J23 v3 M H locs ls (lv_sub hl [1, 2, 3, 4, 0, 5, 6] rfl) hP hS hf
            · refine lv_aload_n hx hb dX2_allows_69 rfl (lv_at hl 0 rfl) ?_
              refine gf_X2_15 S hK hP h0 dX2_allows_70 hf (fun x30 hx30 hf => ?_)
              refine lv_iload hx hb dX2_allows_73 (lv_at hl 6 rfl) ?_
              refine r_iald S hK hP hx30 dX2_allows_75 hf (fun x31 hf => ?_)
              refine lv_aload_n hx hb dX2_allows_76 rfl (lv_at hl 0 rfl) ?_
              refine gf_X2_15 S hK hP h0 dX2_allows_77 hf (fun x32 hx32 hf => ?_)
              refine lv_iload hx hb dX2_allows_80 (lv_at hl 4 rfl) ?_
              refine r_iald S hK hP hx32 dX2_allows_82 hf (fun x33 hf => ?_)
              refine r_icmp_le (tgt := 90) S dX2_allows_83 (by decide) hf (fun hf => ?_) (fun hf => ?_)
              · exact J23 v1 M H locs ls (lv_sub hl [0, 1, 2, 3, 4, 5, 6] rfl) hP hS hf
              · refine lv_iload hx hb dX2_allows_86 (lv_at hl 6 rfl) ?_
                refine lv_istore (lv' := [(4, .int v3), (0, .ref (ad o)), (1, .int p1), (2, .int p2), (3, .int p3), (5, .int v2), (6, .int v3)]) hx hb dX2_allows_88 hl (by decide) rfl (fun ls hl => ?_)
                exact J23 v3 M H locs ls (lv_sub hl [1, 2, 3, 4, 0, 5, 6] rfl) hP hS hf
        refine r_icmp_lt (tgt := 53) S dX2_allows_26 (by decide) hf (fun hf => ?_) (fun hf => ?_)
        · exact J19 M H locs ls (lv_sub hl [0, 1, 2, 3, 4, 5, 6] rfl) hP hS hf
        · refine lv_aload_n hx hb dX2_allows_29 rfl (lv_at hl 0 rfl) ?_
          refine gf_X2_15 S hK hP h0 dX2_allows_30 hf (fun x34 hx34 hf => ?_)
          refine lv_iload hx hb dX2_allows_33 (lv_at hl 6 rfl) ?_
          refine r_iald S hK hP hx34 dX2_allows_35 hf (fun x35 hf => ?_)
          refine lv_iload_n hx hb dX2_allows_36 rfl (lv_at hl 3 rfl) ?_
          refine r_icmp_gt (tgt := 53) S dX2_allows_37 (by decide) hf (fun hf => ?_) (fun hf => ?_)
          · exact J19 M H locs ls (lv_sub hl [0, 1, 2, 3, 4, 5, 6] rfl) hP hS hf
          · refine lv_aload_n hx hb dX2_allows_40 rfl (lv_at hl 0 rfl) ?_
            refine gf_X2_18 S hK hP h0 dX2_allows_41 hf (fun x36 hx36 hf => ?_)
            refine lv_iload hx hb dX2_allows_44 (lv_at hl 6 rfl) ?_
            refine r_iald S hK hP hx36 dX2_allows_46 hf (fun x37 hf => ?_)
            refine lv_iload_n hx hb dX2_allows_47 rfl (lv_at hl 1 rfl) ?_
            refine r_icmp_eq (tgt := 53) S dX2_allows_48 (by decide) hf (fun hf => ?_) (fun hf => ?_)
            · exact J19 M H locs ls (lv_sub hl [0, 1, 2, 3, 4, 5, 6] rfl) hP hS hf
            · refine lv_iconst (v := 0) hx hb dX2_allows_51 (by decide) ?_
              exact hret _ _ _ _ _ _ dX2_allows_52 hP hS rfl hf
  exact L4 _ (-1) (-1) 0 M H locs ls (lv_sub hl [3, 4, 5, 6, 2, 1, 0] rfl) hP hS hf
section
variable {p : Program} {l : Launch} {e : Env} {R : Room} {s : State} {m : MethodId} {args : Array Value} {below : List Frame} {meth : Method} {c : Code} {H : Heap} {locs : List Loc} {cells slots : Nat} {Q : State → Prop} {cc : ByteArray} {pc : Nat} {ls : Array Slot} {rest : List Value} {nL : Nat} {D : va_G} {K : Ks} {ad : Nat → Nat} {A : Nat → Prop} {M : Mem} {β : Type} {z : β}
theorem gf_X3_15 (S : CallFix p m c cc nL s args Tw RX3) (hK : va_K D classes (gty K) s) (hP : va_P D classes (gws K G1 ad M) H) {a : Nat} {kk : Nat → Option β} (ha : gcl G1 a = 3) (hdg : decode cc pc = .ok (.getfield 15, 3)) (hf : vv (grf G1 a 1) kk = some z) (w : ∀ b, gcl G1 b = 20 ∧ gsz G1 b = 72 → kk b = some z → W p l e R s m args below meth c H locs cells slots Q (F0 m (pc + 3) ls (.ref (ad b) :: rest))) : W p l e R s m args below meth c H locs cells slots Q (F0 m pc ls (.ref (ad a) :: rest)) := r_getr S hK hP (T := TX3) inX3 rfl (by decide) (by decide) ha (sf_X3_1 ha).1 k_180 hdg hf (fun b e => w b (by rw [e]; exact (sf_X3_1 ha).2))
end
section
variable {p : Program} {l : Launch} {e : Env} {R : Room} {s : State} {m : MethodId} {args : Array Value} {below : List Frame} {meth : Method} {c : Code} {H : Heap} {locs : List Loc} {cells slots : Nat} {Q : State → Prop} {cc : ByteArray} {pc : Nat} {ls : Array Slot} {rest : List Value} {nL : Nat} {D : va_G} {K : Ks} {ad : Nat → Nat} {A : Nat → Prop} {M : Mem} {β : Type} {z : β}
theorem gf_X3_9 (S : CallFix p m c cc nL s args Tw RX3) (hK : va_K D classes (gty K) s) (hP : va_P D classes (gws K G1 ad M) H) {a : Nat} {kk : Nat → Option β} (ha : gcl G1 a = 3) (hdg : decode cc pc = .ok (.getfield 9, 3)) (hf : vv (grf G1 a 0) kk = some z) (w : ∀ b, gcl G1 b = 20 ∧ gsz G1 b = 6 → kk b = some z → W p l e R s m args below meth c H locs cells slots Q (F0 m (pc + 3) ls (.ref (ad b) :: rest))) : W p l e R s m args below meth c H locs cells slots Q (F0 m pc ls (.ref (ad a) :: rest)) := r_getr S hK hP (T := TX3) inX3 rfl (by decide) (by decide) ha (sf_X3_0 ha).1 k_179 hdg hf (fun b e => w b (by rw [e]; exact (sf_X3_0 ha).2))
end
def f_X3_become (o : Nat) (p1 : Nat) (M : Mem) : Option (Int32 × Mem) :=
  vv (grf G1 p1 0) fun x1 =>
  vv (grf G1 o 0) fun x2 =>
  cy M x1 0 6 x2 0 6 6 fun M =>
  vv (grf G1 p1 1) fun x3 =>
  vv (grf G1 o 1) fun x4 =>
  cy M x3 0 72 x4 0 72 72 fun M =>
  some (0, M)
def rm_X3_become : Room := { frames := 1, cells := 0, slots := 0, locals := 60 }
set_option maxHeartbeats 4000000 in
set_option maxRecDepth 100000 in
theorem c_X3_become {l : Launch} {D : va_G} {K : Ks} {ad : Nat → Nat} {A : Nat → Prop} {tC tA tP : Nat} {kK kV : Nat → Nat} (hG : Gok G1 ad A) {o : Nat} {p1 : Nat} (h0 : gcl G1 o = 3) (h1 : gcl G1 p1 = 3) {M : Mem} {r : Int32} {M' : Mem} (hf : f_X3_become o p1 M = some (r, M')) : Cv l (E1 A tC tA tP kK kV) D K G1 ad A yX3_become (ws_of yX3_become cX3_become 2 none) rm_X3_become [.ref (ad o), .ref (ad p1)] M M' := by
  have hst : Est A (E1 A tC tA tP kK kV) := est1
  refine Cv.ofW (r := r) (by decide) (Nat.le_of_ble_eq_true rfl) ?_
  intro p e s m args below meth c Q H locs ls S hK hE hP hS hl hret
  have hx := S.1
  have hb := S.2.1
  have hown := S.2.2.2.1
  have ht := S.2.2.2.2
  have hl : lv_has ls 2 [(0, .ref (ad o)), (1, .ref (ad p1))] := hl
  unfold f_X3_become at hf
  refine lv_aload_n hx hb dX3_become_0 rfl (lv_at hl 1 rfl) ?_
  refine gf_X3_9 S hK hP h1 dX3_become_1 hf (fun x1 hx1 hf => ?_)
  refine lv_iconst (v := 0) hx hb dX3_become_4 (by decide) ?_
  refine lv_aload_n hx hb dX3_become_5 rfl (lv_at hl 0 rfl) ?_
  refine gf_X3_9 S hK hP h0 dX3_become_6 hf (fun x2 hx2 hf => ?_)
  refine lv_iconst (v := 0) hx hb dX3_become_9 (by decide) ?_
  refine lv_bipush (v := 6) hx hb dX3_become_10 (by decide) ?_
  refine r_copy S hK hG hP hS hx1 hx2 k_1071 k_729 k_728 k_80 hl.1 (Nat.le_of_ble_eq_true rfl) (Nat.le_of_ble_eq_true rfl) dX3_become_12 hf (fun M H locs hP hS hf => ?_)
  refine lv_aload_n hx hb dX3_become_15 rfl (lv_at hl 1 rfl) ?_
  refine gf_X3_15 S hK hP h1 dX3_become_16 hf (fun x3 hx3 hf => ?_)
  refine lv_iconst (v := 0) hx hb dX3_become_19 (by decide) ?_
  refine lv_aload_n hx hb dX3_become_20 rfl (lv_at hl 0 rfl) ?_
  refine gf_X3_15 S hK hP h0 dX3_become_21 hf (fun x4 hx4 hf => ?_)
  refine lv_iconst (v := 0) hx hb dX3_become_24 (by decide) ?_
  refine lv_bipush (v := 72) hx hb dX3_become_25 (by decide) ?_
  refine r_copy S hK hG hP hS hx3 hx4 k_1071 k_729 k_728 k_80 hl.1 (Nat.le_of_ble_eq_true rfl) (Nat.le_of_ble_eq_true rfl) dX3_become_27 hf (fun M H locs hP hS hf => ?_)
  exact hret _ _ _ _ _ _ dX3_become_30 hP hS hf
def f_X3_lengthOf (o : Nat) (p1 : Int32) (M : Mem) : Option (Int32 × Mem) :=
  if p1 < 0 then
    some (0, M)
  else
    if p1 < 6 then
      vv (grf G1 o 0) fun x1 =>
      ld M x1 p1 6 fun x2 =>
      some (x2, M)
    else
      some (0, M)
def rm_X3_lengthOf : Room := { frames := 0, cells := 0, slots := 0, locals := 0 }
set_option maxHeartbeats 4000000 in
set_option maxRecDepth 100000 in
theorem c_X3_lengthOf {l : Launch} {D : va_G} {K : Ks} {ad : Nat → Nat} {A : Nat → Prop} {tC tA tP : Nat} {kK kV : Nat → Nat} (hG : Gok G1 ad A) {o : Nat} {p1 : Int32} (h0 : gcl G1 o = 3) {M : Mem} {r : Int32} {M' : Mem} (hf : f_X3_lengthOf o p1 M = some (r, M')) : Ct l (E1 A tC tA tP kK kV) D K G1 ad A yX3_lengthOf (ws_of yX3_lengthOf cX3_lengthOf 2 (some .int)) rm_X3_lengthOf .int [.ref (ad o), .int p1] M r M' := by
  have hst : Est A (E1 A tC tA tP kK kV) := est1
  refine Ct.ofW (by decide) (Nat.le_of_ble_eq_true rfl) ?_
  intro p e s m args below meth c Q H locs ls S hK hE hP hS hl hret
  have hx := S.1
  have hb := S.2.1
  have hown := S.2.2.2.1
  have ht := S.2.2.2.2
  have hl : lv_has ls 2 [(0, .ref (ad o)), (1, .int p1)] := hl
  unfold f_X3_lengthOf at hf
  refine lv_iload_n hx hb dX3_lengthOf_0 rfl (lv_at hl 1 rfl) ?_
  refine r_if_lt (tgt := 19) S dX3_lengthOf_1 (by decide) hf (fun hf => ?_) (fun hf => ?_)
  · refine lv_iconst (v := 0) hx hb dX3_lengthOf_19 (by decide) ?_
    exact hret _ _ _ _ _ _ dX3_lengthOf_20 hP hS rfl hf
  · refine lv_iload_n hx hb dX3_lengthOf_4 rfl (lv_at hl 1 rfl) ?_
    refine lv_bipush (v := 6) hx hb dX3_lengthOf_5 (by decide) ?_
    refine r_icmp_ge (tgt := 19) S dX3_lengthOf_7 (by decide) hf (fun hf => ?_) (fun hf => ?_)
    · refine lv_iconst (v := 0) hx hb dX3_lengthOf_19 (by decide) ?_
      exact hret _ _ _ _ _ _ dX3_lengthOf_20 hP hS rfl hf
    · refine lv_aload_n hx hb dX3_lengthOf_10 rfl (lv_at hl 0 rfl) ?_
      refine gf_X3_9 S hK hP h0 dX3_lengthOf_11 hf (fun x1 hx1 hf => ?_)
      refine lv_iload_n hx hb dX3_lengthOf_14 rfl (lv_at hl 1 rfl) ?_
      refine r_iald S hK hP hx1 dX3_lengthOf_15 hf (fun x2 hf => ?_)
      refine lv_goto (tgt := 20) hx hb dX3_lengthOf_16 (by decide) ?_
      exact hret _ _ _ _ _ _ dX3_lengthOf_20 hP hS rfl hf
theorem cw_X3_24 {R : Room} {s : State} {args : Array Value} (ht : ∀ w ∈ Tw, w.before args s = true) (hR : rm_X3_lengthOf.frames + 1 ≤ R.frames ∧ 8 + (2 + 11) + rm_X3_lengthOf.locals ≤ R.locals) : CallW R s args RX3 RX3 24 yX3_lengthOf cX3_lengthOf 2 (some .int) (ws_of yX3_lengthOf cX3_lengthOf 2 (some .int)) rm_X3_lengthOf 0 0 1 := cw_V 1 ht k_748 k_749 k_750 k_67 k_751 (by decide +kernel) rfl rfl hR
def f_X3_at (o : Nat) (p1 : Int32) (p2 : Int32) (M : Mem) : Option (Int32 × Mem) :=
  if p2 < 0 then
    some ((-1000000005), M)
  else
    bd (f_X3_lengthOf o p1 M) fun x1 M =>
    if p2 < x1 then
      vv (grf G1 o 1) fun x2 =>
      ld M x2 ((p1 * 12) + p2) 72 fun x3 =>
      some (x3, M)
    else
      some ((-1000000005), M)
def rm_X3_at : Room := { frames := 1, cells := 0, slots := 0, locals := 21 }
set_option maxHeartbeats 4000000 in
set_option maxRecDepth 100000 in
theorem c_X3_at {l : Launch} {D : va_G} {K : Ks} {ad : Nat → Nat} {A : Nat → Prop} {tC tA tP : Nat} {kK kV : Nat → Nat} (hG : Gok G1 ad A) {o : Nat} {p1 : Int32} {p2 : Int32} (h0 : gcl G1 o = 3) {M : Mem} {r : Int32} {M' : Mem} (hf : f_X3_at o p1 p2 M = some (r, M')) : Ct l (E1 A tC tA tP kK kV) D K G1 ad A yX3_at (ws_of yX3_at cX3_at 3 (some .int)) rm_X3_at .int [.ref (ad o), .int p1, .int p2] M r M' := by
  have hst : Est A (E1 A tC tA tP kK kV) := est1
  refine Ct.ofW (by decide) (Nat.le_of_ble_eq_true rfl) ?_
  intro p e s m args below meth c Q H locs ls S hK hE hP hS hl hret
  have hx := S.1
  have hb := S.2.1
  have hown := S.2.2.2.1
  have ht := S.2.2.2.2
  have hl : lv_has ls 3 [(0, .ref (ad o)), (1, .int p1), (2, .int p2)] := hl
  unfold f_X3_at at hf
  refine lv_iload_n hx hb dX3_at_0 rfl (lv_at hl 2 rfl) ?_
  refine r_if_lt (tgt := 27) S dX3_at_1 (by decide) hf (fun hf => ?_) (fun hf => ?_)
  · refine lv_ldc (v := (-1000000005)) hx hb hown (ht _ k_509) dX3_at_27 ?_
    exact hret _ _ _ _ _ _ dX3_at_29 hP hS rfl hf
  · refine lv_iload_n hx hb dX3_at_4 rfl (lv_at hl 2 rfl) ?_
    refine lv_aload_n hx hb dX3_at_5 rfl (lv_at hl 0 rfl) ?_
    refine lv_iload_n hx hb dX3_at_6 rfl (lv_at hl 1 rfl) ?_
    refine r_callV (As := [.int p1]) (rest := [.int p2]) S hK hE hst hP hS h0 (by decide) rfl (cw_X3_24 ht ⟨Nat.le_of_ble_eq_true rfl, Nat.le_of_ble_eq_true rfl⟩) rfl hl.1 rfl (Nat.le_of_ble_eq_true rfl) dX3_at_7 z2 (fun _ _ h => c_X3_lengthOf hG  h0 h) hf (fun x1 M H locs hP hS bx1 hf => ?_)
    refine r_icmp_ge (tgt := 27) S dX3_at_10 (by decide) hf (fun hf => ?_) (fun hf => ?_)
    · refine lv_ldc (v := (-1000000005)) hx hb hown (ht _ k_509) dX3_at_27 ?_
      exact hret _ _ _ _ _ _ dX3_at_29 hP hS rfl hf
    · refine lv_aload_n hx hb dX3_at_13 rfl (lv_at hl 0 rfl) ?_
      refine gf_X3_15 S hK hP h0 dX3_at_14 hf (fun x2 hx2 hf => ?_)
      refine lv_iload_n hx hb dX3_at_17 rfl (lv_at hl 1 rfl) ?_
      refine lv_bipush (v := 12) hx hb dX3_at_18 (by decide) ?_
      refine lv_imul hx hb dX3_at_20 ?_
      refine lv_iload_n hx hb dX3_at_21 rfl (lv_at hl 2 rfl) ?_
      refine lv_iadd hx hb dX3_at_22 ?_
      refine r_iald S hK hP hx2 dX3_at_23 hf (fun x3 hf => ?_)
      refine lv_goto (tgt := 29) hx hb dX3_at_24 (by decide) ?_
      exact hret _ _ _ _ _ _ dX3_at_29 hP hS rfl hf
theorem cw_X3_29 {R : Room} {s : State} {args : Array Value} (ht : ∀ w ∈ Tw, w.before args s = true) (hR : rm_X3_at.frames + 1 ≤ R.frames ∧ 8 + (3 + 11) + rm_X3_at.locals ≤ R.locals) : CallW R s args RX3 RX3 29 yX3_at cX3_at 3 (some .int) (ws_of yX3_at cX3_at 3 (some .int)) rm_X3_at 0 0 2 := cw_V 2 ht k_752 k_753 k_754 k_67 k_755 (by decide +kernel) rfl rfl hR
def f_X3_lastOf (o : Nat) (p1 : Int32) (M : Mem) : Option (Int32 × Mem) :=
  bd (f_X3_lengthOf o p1 M) fun x1 M =>
  bd (f_X3_at o p1 (x1 - 1) M) fun x2 M =>
  some (x2, M)
def rm_X3_lastOf : Room := { frames := 2, cells := 0, slots := 0, locals := 43 }
set_option maxHeartbeats 4000000 in
set_option maxRecDepth 100000 in
theorem c_X3_lastOf {l : Launch} {D : va_G} {K : Ks} {ad : Nat → Nat} {A : Nat → Prop} {tC tA tP : Nat} {kK kV : Nat → Nat} (hG : Gok G1 ad A) {o : Nat} {p1 : Int32} (h0 : gcl G1 o = 3) {M : Mem} {r : Int32} {M' : Mem} (hf : f_X3_lastOf o p1 M = some (r, M')) : Ct l (E1 A tC tA tP kK kV) D K G1 ad A yX3_lastOf (ws_of yX3_lastOf cX3_lastOf 2 (some .int)) rm_X3_lastOf .int [.ref (ad o), .int p1] M r M' := by
  have hst : Est A (E1 A tC tA tP kK kV) := est1
  refine Ct.ofW (by decide) (Nat.le_of_ble_eq_true rfl) ?_
  intro p e s m args below meth c Q H locs ls S hK hE hP hS hl hret
  have hx := S.1
  have hb := S.2.1
  have hown := S.2.2.2.1
  have ht := S.2.2.2.2
  have hl : lv_has ls 2 [(0, .ref (ad o)), (1, .int p1)] := hl
  unfold f_X3_lastOf at hf
  refine lv_aload_n hx hb dX3_lastOf_0 rfl (lv_at hl 0 rfl) ?_
  refine lv_iload_n hx hb dX3_lastOf_1 rfl (lv_at hl 1 rfl) ?_
  refine lv_aload_n hx hb dX3_lastOf_2 rfl (lv_at hl 0 rfl) ?_
  refine lv_iload_n hx hb dX3_lastOf_3 rfl (lv_at hl 1 rfl) ?_
  refine r_callV (As := [.int p1]) (rest := [.int p1, .ref (ad o)]) S hK hE hst hP hS h0 (by decide) rfl (cw_X3_24 ht ⟨Nat.le_of_ble_eq_true rfl, Nat.le_of_ble_eq_true rfl⟩) rfl hl.1 rfl (Nat.le_of_ble_eq_true rfl) dX3_lastOf_4 z2 (fun _ _ h => c_X3_lengthOf hG  h0 h) hf (fun x1 M H locs hP hS bx1 hf => ?_)
  refine lv_iconst (v := 1) hx hb dX3_lastOf_7 (by decide) ?_
  refine lv_isub hx hb dX3_lastOf_8 ?_
  refine r_callV (As := [.int p1, .int (x1 - 1)]) (rest := []) S hK hE hst hP hS h0 (by decide) rfl (cw_X3_29 ht ⟨Nat.le_of_ble_eq_true rfl, Nat.le_of_ble_eq_true rfl⟩) rfl hl.1 rfl (Nat.le_of_ble_eq_true rfl) dX3_lastOf_9 z2 (fun _ _ h => c_X3_at hG  h0 h) hf (fun x2 M H locs hP hS bx2 hf => ?_)
  exact hret _ _ _ _ _ _ dX3_lastOf_12 hP hS rfl hf
def f_X3_holder (o : Nat) (p1 : Int32) (M : Mem) : Option (Int32 × Mem) :=
  it1 (fun rc2 (v1 : Int32) M =>
    if v1 < 6 then
      it1 (fun rc4 (v3 : Int32) M =>
        vv (grf G1 o 0) fun x5 =>
        ld M x5 v1 6 fun x6 =>
        if v3 < x6 then
          vv (grf G1 o 1) fun x7 =>
          ld M x7 ((v1 * 12) + v3) 72 fun x8 =>
          if x8 = p1 then
            some (v1, M)
          else
            rc4 (v3 + 1) M
        else
          rc2 (v1 + 1) M
      ) fuel 0 M
    else
      some ((-1000000005), M)
  ) fuel 0 M
def rm_X3_holder : Room := { frames := 0, cells := 0, slots := 0, locals := 0 }
set_option maxHeartbeats 4000000 in
set_option maxRecDepth 100000 in
theorem c_X3_holder {l : Launch} {D : va_G} {K : Ks} {ad : Nat → Nat} {A : Nat → Prop} {tC tA tP : Nat} {kK kV : Nat → Nat} (hG : Gok G1 ad A) {o : Nat} {p1 : Int32} (h0 : gcl G1 o = 3) {M : Mem} {r : Int32} {M' : Mem} (hf : f_X3_holder o p1 M = some (r, M')) : Ct l (E1 A tC tA tP kK kV) D K G1 ad A yX3_holder (ws_of yX3_holder cX3_holder 4 (some .int)) rm_X3_holder .int [.ref (ad o), .int p1] M r M' := by
  have hst : Est A (E1 A tC tA tP kK kV) := est1
  refine Ct.ofW (by decide) (Nat.le_of_ble_eq_true rfl) ?_
  intro p e s m args below meth c Q H locs ls S hK hE hP hS hl hret
  have hx := S.1
  have hb := S.2.1
  have hown := S.2.2.2.1
  have ht := S.2.2.2.2
  have hl : lv_has ls 4 [(0, .ref (ad o)), (1, .int p1)] := hl
  unfold f_X3_holder at hf
  refine lv_iconst (v := 0) hx hb dX3_holder_0 (by decide) ?_
  refine lv_istore_n (lv' := [(2, .int 0), (0, .ref (ad o)), (1, .int p1)]) hx hb dX3_holder_1 rfl hl (by decide) rfl (fun ls hl => ?_)
  obtain ⟨F2, hF2, hf⟩ := it1_g hf
  have L2 : ∀ (n : Nat) (v1 : Int32) (M : Mem) (H : Heap) (locs : List Loc) (ls : Array Slot), lv_has ls 4 [(0, .ref (ad o)), (1, .int p1), (2, .int v1)] → va_P D classes (gws K G1 ad M) H → va_S A s.heap H locs → it1 F2 n v1 M = some (r, M') → W p l e rm_X3_holder s m args below meth c H locs 0 0 Q (F0 m 2 ls []) := by
    intro n
    induction n with
    | zero => intro v1 M H locs ls hl hP hS hf; exact nomatch hf
    | succ n ih2 =>
      intro v1 M H locs ls hl hP hS hf
      obtain ⟨rc2, hrc2, hf⟩ := it1_w hf
      rw [← hrc2] at ih2
      rw [hF2] at hf
      refine lv_iload_n hx hb dX3_holder_2 rfl (lv_at hl 2 rfl) ?_
      refine lv_bipush (v := 6) hx hb dX3_holder_3 (by decide) ?_
      refine r_icmp_ge (tgt := 49) S dX3_holder_5 (by decide) hf (fun hf => ?_) (fun hf => ?_)
      · refine lv_ldc (v := (-1000000005)) hx hb hown (ht _ k_509) dX3_holder_49 ?_
        exact hret _ _ _ _ _ _ dX3_holder_51 hP hS rfl hf
      · refine lv_iconst (v := 0) hx hb dX3_holder_8 (by decide) ?_
        refine lv_istore_n (lv' := [(3, .int 0), (0, .ref (ad o)), (1, .int p1), (2, .int v1)]) hx hb dX3_holder_9 rfl hl (by decide) rfl (fun ls hl => ?_)
        obtain ⟨F4, hF4, hf⟩ := it1_g hf
        have L4 : ∀ (n : Nat) (v3 : Int32) (M : Mem) (H : Heap) (locs : List Loc) (ls : Array Slot), lv_has ls 4 [(0, .ref (ad o)), (1, .int p1), (2, .int v1), (3, .int v3)] → va_P D classes (gws K G1 ad M) H → va_S A s.heap H locs → it1 F4 n v3 M = some (r, M') → W p l e rm_X3_holder s m args below meth c H locs 0 0 Q (F0 m 10 ls []) := by
          intro n
          induction n with
          | zero => intro v3 M H locs ls hl hP hS hf; exact nomatch hf
          | succ n ih4 =>
            intro v3 M H locs ls hl hP hS hf
            obtain ⟨rc4, hrc4, hf⟩ := it1_w hf
            rw [← hrc4] at ih4
            rw [hF4] at hf
            refine lv_iload_n hx hb dX3_holder_10 rfl (lv_at hl 3 rfl) ?_
            refine lv_aload_n hx hb dX3_holder_11 rfl (lv_at hl 0 rfl) ?_
            refine gf_X3_9 S hK hP h0 dX3_holder_12 hf (fun x5 hx5 hf => ?_)
            refine lv_iload_n hx hb dX3_holder_15 rfl (lv_at hl 2 rfl) ?_
            refine r_iald S hK hP hx5 dX3_holder_16 hf (fun x6 hf => ?_)
            refine r_icmp_ge (tgt := 43) S dX3_holder_17 (by decide) hf (fun hf => ?_) (fun hf => ?_)
            · refine lv_iinc (v := (v1 + 1)) (lv' := [(2, .int (v1 + 1)), (0, .ref (ad o)), (1, .int p1), (3, .int v3)]) hx hb dX3_holder_43 hl (k := 2) rfl rfl (by decide) rfl (fun ls hl => ?_)
              refine lv_goto (tgt := 2) hx hb dX3_holder_46 (by decide) ?_
              exact ih2 (v1 + 1) M H locs ls (lv_sub hl [1, 2, 0] rfl) hP hS hf
            · refine lv_aload_n hx hb dX3_holder_20 rfl (lv_at hl 0 rfl) ?_
              refine gf_X3_15 S hK hP h0 dX3_holder_21 hf (fun x7 hx7 hf => ?_)
              refine lv_iload_n hx hb dX3_holder_24 rfl (lv_at hl 2 rfl) ?_
              refine lv_bipush (v := 12) hx hb dX3_holder_25 (by decide) ?_
              refine lv_imul hx hb dX3_holder_27 ?_
              refine lv_iload_n hx hb dX3_holder_28 rfl (lv_at hl 3 rfl) ?_
              refine lv_iadd hx hb dX3_holder_29 ?_
              refine r_iald S hK hP hx7 dX3_holder_30 hf (fun x8 hf => ?_)
              refine lv_iload_n hx hb dX3_holder_31 rfl (lv_at hl 1 rfl) ?_
              refine r_icmp_ne (tgt := 37) S dX3_holder_32 (by decide) hf (fun hf => ?_) (fun hf => ?_)
              · refine lv_iinc (v := (v3 + 1)) (lv' := [(3, .int (v3 + 1)), (0, .ref (ad o)), (1, .int p1), (2, .int v1)]) hx hb dX3_holder_37 hl (k := 3) rfl rfl (by decide) rfl (fun ls hl => ?_)
                refine lv_goto (tgt := 10) hx hb dX3_holder_40 (by decide) ?_
                exact ih4 (v3 + 1) M H locs ls (lv_sub hl [1, 2, 3, 0] rfl) hP hS hf
              · refine lv_iload_n hx hb dX3_holder_35 rfl (lv_at hl 2 rfl) ?_
                exact hret _ _ _ _ _ _ dX3_holder_36 hP hS rfl hf
        exact L4 _ 0 M H locs ls (lv_sub hl [1, 2, 3, 0] rfl) hP hS hf
  exact L2 _ 0 M H locs ls (lv_sub hl [1, 2, 0] rfl) hP hS hf
def f_X3_append (o : Nat) (p1 : Int32) (p2 : Int32) (M : Mem) : Option (Int32 × Mem) :=
  bd (f_X3_lengthOf o p1 M) fun x1 M =>
  if x1 < 12 then
    vv (grf G1 o 1) fun x2 =>
    vv (grf G1 o 0) fun x3 =>
    ld M x3 p1 6 fun x4 =>
    st M x2 ((p1 * 12) + x4) 72 p2 fun M =>
    vv (grf G1 o 0) fun x5 =>
    ld M x5 p1 6 fun x6 =>
    st M x5 p1 6 (x6 + 1) fun M =>
    vv (grf G1 o 0) fun x7 =>
    ld M x7 p1 6 fun x8 =>
    some (x8, M)
  else
    some ((-1000000003), M)
def rm_X3_append : Room := { frames := 1, cells := 0, slots := 0, locals := 21 }
set_option maxHeartbeats 4000000 in
set_option maxRecDepth 100000 in
theorem c_X3_append {l : Launch} {D : va_G} {K : Ks} {ad : Nat → Nat} {A : Nat → Prop} {tC tA tP : Nat} {kK kV : Nat → Nat} (hG : Gok G1 ad A) {o : Nat} {p1 : Int32} {p2 : Int32} (h0 : gcl G1 o = 3) {M : Mem} {r : Int32} {M' : Mem} (hf : f_X3_append o p1 p2 M = some (r, M')) : Ct l (E1 A tC tA tP kK kV) D K G1 ad A yX3_append (ws_of yX3_append cX3_append 3 (some .int)) rm_X3_append .int [.ref (ad o), .int p1, .int p2] M r M' := by
  have hst : Est A (E1 A tC tA tP kK kV) := est1
  refine Ct.ofW (by decide) (Nat.le_of_ble_eq_true rfl) ?_
  intro p e s m args below meth c Q H locs ls S hK hE hP hS hl hret
  have hx := S.1
  have hb := S.2.1
  have hown := S.2.2.2.1
  have ht := S.2.2.2.2
  have hl : lv_has ls 3 [(0, .ref (ad o)), (1, .int p1), (2, .int p2)] := hl
  unfold f_X3_append at hf
  refine lv_aload_n hx hb dX3_append_0 rfl (lv_at hl 0 rfl) ?_
  refine lv_iload_n hx hb dX3_append_1 rfl (lv_at hl 1 rfl) ?_
  refine r_callV (As := [.int p1]) (rest := []) S hK hE hst hP hS h0 (by decide) rfl (cw_X3_24 ht ⟨Nat.le_of_ble_eq_true rfl, Nat.le_of_ble_eq_true rfl⟩) rfl hl.1 rfl (Nat.le_of_ble_eq_true rfl) dX3_append_2 z2 (fun _ _ h => c_X3_lengthOf hG  h0 h) hf (fun x1 M H locs hP hS bx1 hf => ?_)
  refine lv_bipush (v := 12) hx hb dX3_append_5 (by decide) ?_
  refine r_icmp_lt (tgt := 13) S dX3_append_7 (by decide) hf (fun hf => ?_) (fun hf => ?_)
  · refine lv_aload_n hx hb dX3_append_13 rfl (lv_at hl 0 rfl) ?_
    refine gf_X3_15 S hK hP h0 dX3_append_14 hf (fun x2 hx2 hf => ?_)
    refine lv_iload_n hx hb dX3_append_17 rfl (lv_at hl 1 rfl) ?_
    refine lv_bipush (v := 12) hx hb dX3_append_18 (by decide) ?_
    refine lv_imul hx hb dX3_append_20 ?_
    refine lv_aload_n hx hb dX3_append_21 rfl (lv_at hl 0 rfl) ?_
    refine gf_X3_9 S hK hP h0 dX3_append_22 hf (fun x3 hx3 hf => ?_)
    refine lv_iload_n hx hb dX3_append_25 rfl (lv_at hl 1 rfl) ?_
    refine r_iald S hK hP hx3 dX3_append_26 hf (fun x4 hf => ?_)
    refine lv_iadd hx hb dX3_append_27 ?_
    refine lv_iload_n hx hb dX3_append_28 rfl (lv_at hl 2 rfl) ?_
    refine r_iast S hK hG hP hS hx2 dX3_append_29 hf (fun M H locs hP hS hf => ?_)
    refine lv_aload_n hx hb dX3_append_30 rfl (lv_at hl 0 rfl) ?_
    refine gf_X3_9 S hK hP h0 dX3_append_31 hf (fun x5 hx5 hf => ?_)
    refine lv_iload_n hx hb dX3_append_34 rfl (lv_at hl 1 rfl) ?_
    refine lv_dup2_11 hx hb dX3_append_35 rfl rfl ?_
    refine r_iald S hK hP hx5 dX3_append_36 hf (fun x6 hf => ?_)
    refine lv_iconst (v := 1) hx hb dX3_append_37 (by decide) ?_
    refine lv_iadd hx hb dX3_append_38 ?_
    refine r_iast S hK hG hP hS hx5 dX3_append_39 hf (fun M H locs hP hS hf => ?_)
    refine lv_aload_n hx hb dX3_append_40 rfl (lv_at hl 0 rfl) ?_
    refine gf_X3_9 S hK hP h0 dX3_append_41 hf (fun x7 hx7 hf => ?_)
    refine lv_iload_n hx hb dX3_append_44 rfl (lv_at hl 1 rfl) ?_
    refine r_iald S hK hP hx7 dX3_append_45 hf (fun x8 hf => ?_)
    exact hret _ _ _ _ _ _ dX3_append_46 hP hS rfl hf
  · refine lv_ldc (v := (-1000000003)) hx hb hown (ht _ k_760) dX3_append_10 ?_
    exact hret _ _ _ _ _ _ dX3_append_12 hP hS rfl hf
section
variable {p : Program} {l : Launch} {e : Env} {R : Room} {s : State} {m : MethodId} {args : Array Value} {below : List Frame} {meth : Method} {c : Code} {H : Heap} {locs : List Loc} {cells slots : Nat} {Q : State → Prop} {cc : ByteArray} {pc : Nat} {ls : Array Slot} {rest : List Value} {nL : Nat} {D : va_G} {K : Ks} {ad : Nat → Nat} {A : Nat → Prop} {M : Mem} {β : Type} {z : β}
theorem gf_X4_15 (S : CallFix p m c cc nL s args Tw RX4) (hK : va_K D classes (gty K) s) (hP : va_P D classes (gws K G1 ad M) H) {a : Nat} {kk : Nat → Option β} (ha : gcl G1 a = 4) (hdg : decode cc pc = .ok (.getfield 15, 3)) (hf : vv (grf G1 a 2) kk = some z) (w : ∀ b, gcl G1 b = 20 ∧ gsz G1 b = 24 → kk b = some z → W p l e R s m args below meth c H locs cells slots Q (F0 m (pc + 3) ls (.ref (ad b) :: rest))) : W p l e R s m args below meth c H locs cells slots Q (F0 m pc ls (.ref (ad a) :: rest)) := r_getr S hK hP (T := TX4) inX4 rfl (by decide) (by decide) ha (sf_X4_2 ha).1 k_337 hdg hf (fun b e => w b (by rw [e]; exact (sf_X4_2 ha).2))
end
section
variable {p : Program} {l : Launch} {e : Env} {R : Room} {s : State} {m : MethodId} {args : Array Value} {below : List Frame} {meth : Method} {c : Code} {H : Heap} {locs : List Loc} {cells slots : Nat} {Q : State → Prop} {cc : ByteArray} {pc : Nat} {ls : Array Slot} {rest : List Value} {nL : Nat} {D : va_G} {K : Ks} {ad : Nat → Nat} {A : Nat → Prop} {M : Mem} {β : Type} {z : β}
theorem gf_X4_19 (S : CallFix p m c cc nL s args Tw RX4) (hK : va_K D classes (gty K) s) (hP : va_P D classes (gws K G1 ad M) H) {a : Nat} {kk : Int32 → Option β} (ha : gcl G1 a = 4) (hdg : decode cc pc = .ok (.getfield 19, 3)) (hf : vv (M a 1) kk = some z) (w : ∀ x, kk x = some z → W p l e R s m args below meth c H locs cells slots Q (F0 m (pc + 3) ls (.int x :: rest))) : W p l e R s m args below meth c H locs cells slots Q (F0 m pc ls (.ref (ad a) :: rest)) := r_geti S hK hP (T := TX4) inX4 rfl (by decide) (by decide) ha (sf_X4_1 ha) k_336 hdg hf w
end
section
variable {p : Program} {l : Launch} {e : Env} {R : Room} {s : State} {m : MethodId} {args : Array Value} {below : List Frame} {meth : Method} {c : Code} {H : Heap} {locs : List Loc} {cells slots : Nat} {Q : State → Prop} {cc : ByteArray} {pc : Nat} {ls : Array Slot} {rest : List Value} {nL : Nat} {D : va_G} {K : Ks} {ad : Nat → Nat} {A : Nat → Prop} {M : Mem} {β : Type} {z : β}
theorem gf_X4_9 (S : CallFix p m c cc nL s args Tw RX4) (hK : va_K D classes (gty K) s) (hP : va_P D classes (gws K G1 ad M) H) {a : Nat} {kk : Int32 → Option β} (ha : gcl G1 a = 4) (hdg : decode cc pc = .ok (.getfield 9, 3)) (hf : vv (M a 0) kk = some z) (w : ∀ x, kk x = some z → W p l e R s m args below meth c H locs cells slots Q (F0 m (pc + 3) ls (.int x :: rest))) : W p l e R s m args below meth c H locs cells slots Q (F0 m pc ls (.ref (ad a) :: rest)) := r_geti S hK hP (T := TX4) inX4 rfl (by decide) (by decide) ha (sf_X4_0 ha) k_334 hdg hf w
end
section
variable {p : Program} {l : Launch} {e : Env} {R : Room} {s : State} {m : MethodId} {args : Array Value} {below : List Frame} {meth : Method} {c : Code} {H : Heap} {locs : List Loc} {cells slots : Nat} {Q : State → Prop} {cc : ByteArray} {pc : Nat} {ls : Array Slot} {rest : List Value} {nL : Nat} {D : va_G} {K : Ks} {ad : Nat → Nat} {A : Nat → Prop} {M : Mem} {β : Type} {z : β}
theorem pf_X4_19 (S : CallFix p m c cc nL s args Tw RX4) (hK : va_K D classes (gty K) s) (hG : Gok G1 ad A) (hP : va_P D classes (gws K G1 ad M) H) (hS : va_S A s.heap H locs) {a : Nat} {v : Int32} {kk : Mem → Option β} (ha : gcl G1 a = 4) (hdg : decode cc pc = .ok (.putfield 19, 3)) (hf : mm (up M a 1 v) kk = some z) (w : ∀ M H locs, va_P D classes (gws K G1 ad M) H → va_S A s.heap H locs → kk M = some z → W p l e R s m args below meth c H locs cells slots Q (F0 m (pc + 3) ls rest)) : W p l e R s m args below meth c H locs cells slots Q (F0 m pc ls (.int v :: .ref (ad a) :: rest)) := r_putt S hK hG hP hS (k := 1) (T := TX4) inX4 rfl (by decide) tyX4 tyX4_ok nmX4 (by decide) rfl rfl rfl ha (sf_X4_1 ha) k_336 hdg hf w
end
section
variable {p : Program} {l : Launch} {e : Env} {R : Room} {s : State} {m : MethodId} {args : Array Value} {below : List Frame} {meth : Method} {c : Code} {H : Heap} {locs : List Loc} {cells slots : Nat} {Q : State → Prop} {cc : ByteArray} {pc : Nat} {ls : Array Slot} {rest : List Value} {nL : Nat} {D : va_G} {K : Ks} {ad : Nat → Nat} {A : Nat → Prop} {M : Mem} {β : Type} {z : β}
theorem pf_X4_9 (S : CallFix p m c cc nL s args Tw RX4) (hK : va_K D classes (gty K) s) (hG : Gok G1 ad A) (hP : va_P D classes (gws K G1 ad M) H) (hS : va_S A s.heap H locs) {a : Nat} {v : Int32} {kk : Mem → Option β} (ha : gcl G1 a = 4) (hdg : decode cc pc = .ok (.putfield 9, 3)) (hf : mm (up M a 0 v) kk = some z) (w : ∀ M H locs, va_P D classes (gws K G1 ad M) H → va_S A s.heap H locs → kk M = some z → W p l e R s m args below meth c H locs cells slots Q (F0 m (pc + 3) ls rest)) : W p l e R s m args below meth c H locs cells slots Q (F0 m pc ls (.int v :: .ref (ad a) :: rest)) := r_putt S hK hG hP hS (k := 0) (T := TX4) inX4 rfl (by decide) tyX4 tyX4_ok nmX4 (by decide) rfl rfl rfl ha (sf_X4_0 ha) k_334 hdg hf w
end
def f_X4_become (o : Nat) (p1 : Nat) (M : Mem) : Option (Int32 × Mem) :=
  vv (M p1 0) fun x1 =>
  mm (up M o 0 x1) fun M =>
  vv (M p1 1) fun x2 =>
  mm (up M o 1 x2) fun M =>
  vv (grf G1 p1 2) fun x3 =>
  vv (grf G1 o 2) fun x4 =>
  cy M x3 0 24 x4 0 24 24 fun M =>
  some (0, M)
def rm_X4_become : Room := { frames := 1, cells := 0, slots := 0, locals := 60 }
set_option maxHeartbeats 4000000 in
set_option maxRecDepth 100000 in
theorem c_X4_become {l : Launch} {D : va_G} {K : Ks} {ad : Nat → Nat} {A : Nat → Prop} {tC tA tP : Nat} {kK kV : Nat → Nat} (hG : Gok G1 ad A) {o : Nat} {p1 : Nat} (h0 : gcl G1 o = 4) (h1 : gcl G1 p1 = 4) {M : Mem} {r : Int32} {M' : Mem} (hf : f_X4_become o p1 M = some (r, M')) : Cv l (E1 A tC tA tP kK kV) D K G1 ad A yX4_become (ws_of yX4_become cX4_become 2 none) rm_X4_become [.ref (ad o), .ref (ad p1)] M M' := by
  have hst : Est A (E1 A tC tA tP kK kV) := est1
  refine Cv.ofW (r := r) (by decide) (Nat.le_of_ble_eq_true rfl) ?_
  intro p e s m args below meth c Q H locs ls S hK hE hP hS hl hret
  have hx := S.1
  have hb := S.2.1
  have hown := S.2.2.2.1
  have ht := S.2.2.2.2
  have hl : lv_has ls 2 [(0, .ref (ad o)), (1, .ref (ad p1))] := hl
  unfold f_X4_become at hf
  refine lv_aload_n hx hb dX4_become_0 rfl (lv_at hl 0 rfl) ?_
  refine lv_aload_n hx hb dX4_become_1 rfl (lv_at hl 1 rfl) ?_
  refine gf_X4_9 S hK hP h1 dX4_become_2 hf (fun x1 hf => ?_)
  refine pf_X4_9 S hK hG hP hS h0 dX4_become_5 hf (fun M H locs hP hS hf => ?_)
  refine lv_aload_n hx hb dX4_become_8 rfl (lv_at hl 0 rfl) ?_
  refine lv_aload_n hx hb dX4_become_9 rfl (lv_at hl 1 rfl) ?_
  refine gf_X4_19 S hK hP h1 dX4_become_10 hf (fun x2 hf => ?_)
  refine pf_X4_19 S hK hG hP hS h0 dX4_become_13 hf (fun M H locs hP hS hf => ?_)
  refine lv_aload_n hx hb dX4_become_16 rfl (lv_at hl 1 rfl) ?_
  refine gf_X4_15 S hK hP h1 dX4_become_17 hf (fun x3 hx3 hf => ?_)
  refine lv_iconst (v := 0) hx hb dX4_become_20 (by decide) ?_
  refine lv_aload_n hx hb dX4_become_21 rfl (lv_at hl 0 rfl) ?_
  refine gf_X4_15 S hK hP h0 dX4_become_22 hf (fun x4 hx4 hf => ?_)
  refine lv_iconst (v := 0) hx hb dX4_become_25 (by decide) ?_
  refine lv_bipush (v := 24) hx hb dX4_become_26 (by decide) ?_
  refine r_copy S hK hG hP hS hx3 hx4 k_1029 k_729 k_728 k_80 hl.1 (Nat.le_of_ble_eq_true rfl) (Nat.le_of_ble_eq_true rfl) dX4_become_28 hf (fun M H locs hP hS hf => ?_)
  exact hret _ _ _ _ _ _ dX4_become_31 hP hS hf
def f_X4_renew (o : Nat) (p1 : Int32) (p2 : Int32) (M : Mem) : Option (Int32 × Mem) :=
  mm (up M o 0 p1) fun M =>
  mm (up M o 1 p2) fun M =>
  it1 (fun rc2 (v1 : Int32) M =>
    if v1 < 24 then
      vv (grf G1 o 2) fun x3 =>
      st M x3 v1 24 0 fun M =>
      rc2 (v1 + 1) M
    else
      some (p2, M)
  ) fuel 0 M
def rm_X4_renew : Room := { frames := 0, cells := 0, slots := 0, locals := 0 }
set_option maxHeartbeats 4000000 in
set_option maxRecDepth 100000 in
theorem c_X4_renew {l : Launch} {D : va_G} {K : Ks} {ad : Nat → Nat} {A : Nat → Prop} {tC tA tP : Nat} {kK kV : Nat → Nat} (hG : Gok G1 ad A) {o : Nat} {p1 : Int32} {p2 : Int32} (h0 : gcl G1 o = 4) {M : Mem} {r : Int32} {M' : Mem} (hf : f_X4_renew o p1 p2 M = some (r, M')) : Ct l (E1 A tC tA tP kK kV) D K G1 ad A yX4_renew (ws_of yX4_renew cX4_renew 4 (some .int)) rm_X4_renew .int [.ref (ad o), .int p1, .int p2] M r M' := by
  have hst : Est A (E1 A tC tA tP kK kV) := est1
  refine Ct.ofW (by decide) (Nat.le_of_ble_eq_true rfl) ?_
  intro p e s m args below meth c Q H locs ls S hK hE hP hS hl hret
  have hx := S.1
  have hb := S.2.1
  have hown := S.2.2.2.1
  have ht := S.2.2.2.2
  have hl : lv_has ls 4 [(0, .ref (ad o)), (1, .int p1), (2, .int p2)] := hl
  unfold f_X4_renew at hf
  refine lv_aload_n hx hb dX4_renew_0 rfl (lv_at hl 0 rfl) ?_
  refine lv_iload_n hx hb dX4_renew_1 rfl (lv_at hl 1 rfl) ?_
  refine pf_X4_9 S hK hG hP hS h0 dX4_renew_2 hf (fun M H locs hP hS hf => ?_)
  refine lv_aload_n hx hb dX4_renew_5 rfl (lv_at hl 0 rfl) ?_
  refine lv_iload_n hx hb dX4_renew_6 rfl (lv_at hl 2 rfl) ?_
  refine pf_X4_19 S hK hG hP hS h0 dX4_renew_7 hf (fun M H locs hP hS hf => ?_)
  refine lv_iconst (v := 0) hx hb dX4_renew_10 (by decide) ?_
  refine lv_istore_n (lv' := [(3, .int 0), (0, .ref (ad o)), (1, .int p1), (2, .int p2)]) hx hb dX4_renew_11 rfl hl (by decide) rfl (fun ls hl => ?_)
  obtain ⟨F2, hF2, hf⟩ := it1_g hf
  have L2 : ∀ (n : Nat) (v1 : Int32) (M : Mem) (H : Heap) (locs : List Loc) (ls : Array Slot), lv_has ls 4 [(0, .ref (ad o)), (2, .int p2), (3, .int v1)] → va_P D classes (gws K G1 ad M) H → va_S A s.heap H locs → it1 F2 n v1 M = some (r, M') → W p l e rm_X4_renew s m args below meth c H locs 0 0 Q (F0 m 12 ls []) := by
    intro n
    induction n with
    | zero => intro v1 M H locs ls hl hP hS hf; exact nomatch hf
    | succ n ih2 =>
      intro v1 M H locs ls hl hP hS hf
      obtain ⟨rc2, hrc2, hf⟩ := it1_w hf
      rw [← hrc2] at ih2
      rw [hF2] at hf
      refine lv_iload_n hx hb dX4_renew_12 rfl (lv_at hl 2 rfl) ?_
      refine lv_bipush (v := 24) hx hb dX4_renew_13 (by decide) ?_
      refine r_icmp_ge (tgt := 31) S dX4_renew_15 (by decide) hf (fun hf => ?_) (fun hf => ?_)
      · refine lv_iload_n hx hb dX4_renew_31 rfl (lv_at hl 1 rfl) ?_
        exact hret _ _ _ _ _ _ dX4_renew_32 hP hS rfl hf
      · refine lv_aload_n hx hb dX4_renew_18 rfl (lv_at hl 0 rfl) ?_
        refine gf_X4_15 S hK hP h0 dX4_renew_19 hf (fun x3 hx3 hf => ?_)
        refine lv_iload_n hx hb dX4_renew_22 rfl (lv_at hl 2 rfl) ?_
        refine lv_iconst (v := 0) hx hb dX4_renew_23 (by decide) ?_
        refine r_iast S hK hG hP hS hx3 dX4_renew_24 hf (fun M H locs hP hS hf => ?_)
        refine lv_iinc (v := (v1 + 1)) (lv' := [(3, .int (v1 + 1)), (0, .ref (ad o)), (2, .int p2)]) hx hb dX4_renew_25 hl (k := 2) rfl rfl (by decide) rfl (fun ls hl => ?_)
        refine lv_goto (tgt := 12) hx hb dX4_renew_28 (by decide) ?_
        exact ih2 (v1 + 1) M H locs ls (lv_sub hl [1, 2, 0] rfl) hP hS hf
  exact L2 _ 0 M H locs ls (lv_sub hl [1, 3, 0] rfl) hP hS hf
def f_X4_has (o : Nat) (p1 : Int32) (M : Mem) : Option (Int32 × Mem) :=
  if p1 < 0 then
    some (0, M)
  else
    vv (M o 1) fun x1 =>
    if p1 < x1 then
      some (1, M)
    else
      some (0, M)
def rm_X4_has : Room := { frames := 0, cells := 0, slots := 0, locals := 0 }
set_option maxHeartbeats 4000000 in
set_option maxRecDepth 100000 in
theorem c_X4_has {l : Launch} {D : va_G} {K : Ks} {ad : Nat → Nat} {A : Nat → Prop} {tC tA tP : Nat} {kK kV : Nat → Nat} (hG : Gok G1 ad A) {o : Nat} {p1 : Int32} (h0 : gcl G1 o = 4) {M : Mem} {r : Int32} {M' : Mem} (hf : f_X4_has o p1 M = some (r, M')) : Ct l (E1 A tC tA tP kK kV) D K G1 ad A yX4_has (ws_of yX4_has cX4_has 2 (some .boolean)) rm_X4_has .boolean [.ref (ad o), .int p1] M r M' := by
  have hst : Est A (E1 A tC tA tP kK kV) := est1
  refine Ct.ofW (by decide) (Nat.le_of_ble_eq_true rfl) ?_
  intro p e s m args below meth c Q H locs ls S hK hE hP hS hl hret
  have hx := S.1
  have hb := S.2.1
  have hown := S.2.2.2.1
  have ht := S.2.2.2.2
  have hl : lv_has ls 2 [(0, .ref (ad o)), (1, .int p1)] := hl
  unfold f_X4_has at hf
  refine lv_iload_n hx hb dX4_has_0 rfl (lv_at hl 1 rfl) ?_
  refine r_if_lt (tgt := 16) S dX4_has_1 (by decide) hf (fun hf => ?_) (fun hf => ?_)
  · refine lv_iconst (v := 0) hx hb dX4_has_16 (by decide) ?_
    exact hret _ _ _ _ _ _ dX4_has_17 hP hS rfl hf
  · refine lv_iload_n hx hb dX4_has_4 rfl (lv_at hl 1 rfl) ?_
    refine lv_aload_n hx hb dX4_has_5 rfl (lv_at hl 0 rfl) ?_
    refine gf_X4_19 S hK hP h0 dX4_has_6 hf (fun x1 hf => ?_)
    refine r_icmp_ge (tgt := 16) S dX4_has_9 (by decide) hf (fun hf => ?_) (fun hf => ?_)
    · refine lv_iconst (v := 0) hx hb dX4_has_16 (by decide) ?_
      exact hret _ _ _ _ _ _ dX4_has_17 hP hS rfl hf
    · refine lv_iconst (v := 1) hx hb dX4_has_12 (by decide) ?_
      refine lv_goto (tgt := 17) hx hb dX4_has_13 (by decide) ?_
      exact hret _ _ _ _ _ _ dX4_has_17 hP hS rfl hf
def f_X4_hasRow (o : Nat) (p1 : Int32) (p2 : Int32) (M : Mem) : Option (Int32 × Mem) :=
  if p1 < 0 then
    some (0, M)
  else
    vv (M o 1) fun x1 =>
    if x1 < p1 then
      some (0, M)
    else
      if p2 < 0 then
        some (0, M)
      else
        vv (M o 1) fun x2 =>
        if (x2 - p1) < p2 then
          some (0, M)
        else
          some (1, M)
def rm_X4_hasRow : Room := { frames := 0, cells := 0, slots := 0, locals := 0 }
set_option maxHeartbeats 4000000 in
set_option maxRecDepth 100000 in
theorem c_X4_hasRow {l : Launch} {D : va_G} {K : Ks} {ad : Nat → Nat} {A : Nat → Prop} {tC tA tP : Nat} {kK kV : Nat → Nat} (hG : Gok G1 ad A) {o : Nat} {p1 : Int32} {p2 : Int32} (h0 : gcl G1 o = 4) {M : Mem} {r : Int32} {M' : Mem} (hf : f_X4_hasRow o p1 p2 M = some (r, M')) : Ct l (E1 A tC tA tP kK kV) D K G1 ad A yX4_hasRow (ws_of yX4_hasRow cX4_hasRow 3 (some .boolean)) rm_X4_hasRow .boolean [.ref (ad o), .int p1, .int p2] M r M' := by
  have hst : Est A (E1 A tC tA tP kK kV) := est1
  refine Ct.ofW (by decide) (Nat.le_of_ble_eq_true rfl) ?_
  intro p e s m args below meth c Q H locs ls S hK hE hP hS hl hret
  have hx := S.1
  have hb := S.2.1
  have hown := S.2.2.2.1
  have ht := S.2.2.2.2
  have hl : lv_has ls 3 [(0, .ref (ad o)), (1, .int p1), (2, .int p2)] := hl
  unfold f_X4_hasRow at hf
  refine lv_iload_n hx hb dX4_hasRow_0 rfl (lv_at hl 1 rfl) ?_
  refine r_if_lt (tgt := 30) S dX4_hasRow_1 (by decide) hf (fun hf => ?_) (fun hf => ?_)
  · refine lv_iconst (v := 0) hx hb dX4_hasRow_30 (by decide) ?_
    exact hret _ _ _ _ _ _ dX4_hasRow_31 hP hS rfl hf
  · refine lv_iload_n hx hb dX4_hasRow_4 rfl (lv_at hl 1 rfl) ?_
    refine lv_aload_n hx hb dX4_hasRow_5 rfl (lv_at hl 0 rfl) ?_
    refine gf_X4_19 S hK hP h0 dX4_hasRow_6 hf (fun x1 hf => ?_)
    refine r_icmp_gt (tgt := 30) S dX4_hasRow_9 (by decide) hf (fun hf => ?_) (fun hf => ?_)
    · refine lv_iconst (v := 0) hx hb dX4_hasRow_30 (by decide) ?_
      exact hret _ _ _ _ _ _ dX4_hasRow_31 hP hS rfl hf
    · refine lv_iload_n hx hb dX4_hasRow_12 rfl (lv_at hl 2 rfl) ?_
      refine r_if_lt (tgt := 30) S dX4_hasRow_13 (by decide) hf (fun hf => ?_) (fun hf => ?_)
      · refine lv_iconst (v := 0) hx hb dX4_hasRow_30 (by decide) ?_
        exact hret _ _ _ _ _ _ dX4_hasRow_31 hP hS rfl hf
      · refine lv_iload_n hx hb dX4_hasRow_16 rfl (lv_at hl 2 rfl) ?_
        refine lv_aload_n hx hb dX4_hasRow_17 rfl (lv_at hl 0 rfl) ?_
        refine gf_X4_19 S hK hP h0 dX4_hasRow_18 hf (fun x2 hf => ?_)
        refine lv_iload_n hx hb dX4_hasRow_21 rfl (lv_at hl 1 rfl) ?_
        refine lv_isub hx hb dX4_hasRow_22 ?_
        refine r_icmp_gt (tgt := 30) S dX4_hasRow_23 (by decide) hf (fun hf => ?_) (fun hf => ?_)
        · refine lv_iconst (v := 0) hx hb dX4_hasRow_30 (by decide) ?_
          exact hret _ _ _ _ _ _ dX4_hasRow_31 hP hS rfl hf
        · refine lv_iconst (v := 1) hx hb dX4_hasRow_26 (by decide) ?_
          refine lv_goto (tgt := 31) hx hb dX4_hasRow_27 (by decide) ?_
          exact hret _ _ _ _ _ _ dX4_hasRow_31 hP hS rfl hf
theorem cw_X4_28 {R : Room} {s : State} {args : Array Value} (ht : ∀ w ∈ Tw, w.before args s = true) {A : Nat → Prop} {tC tA tP : Nat} {kK kV : Nat → Nat} (hE : E1 A tC tA tP kK kV s) (hR : rm_X9_within.frames + 1 ≤ R.frames ∧ 8 + (3 + 11) + rm_X9_within.locals ≤ R.locals) : va_CN R s args RX4 28 yX9_within "TwinTables" cX9_within 3 (some .boolean) (ws_of yX9_within cX9_within 3 (some .boolean)) rm_X9_within 0 0 3 ∧ (Cond.static yX9_within).before args s = true ∧ True := cw_SN 3 ht hE.2.2.2.2.2.2.1 k_403 k_63 k_404 (by decide +kernel) rfl rfl hR
def f_X4_values (o : Nat) (M : Mem) : Option (Int32 × Mem) :=
  it1 (fun rc2 (v1 : Int32) M =>
    vv (M o 1) fun x3 =>
    if v1 < x3 then
      vv (grf G1 o 2) fun x4 =>
      ld M x4 v1 24 fun x5 =>
      bd (f_X9_within x5 0 9999 M) fun x6 M =>
      if x6 = 0 then
        some (v1, M)
      else
        rc2 (v1 + 1) M
    else
      some (v1, M)
  ) fuel 0 M
def rm_X4_values : Room := { frames := 1, cells := 0, slots := 0, locals := 22 }
set_option maxHeartbeats 4000000 in
set_option maxRecDepth 100000 in
theorem c_X4_values {l : Launch} {D : va_G} {K : Ks} {ad : Nat → Nat} {A : Nat → Prop} {tC tA tP : Nat} {kK kV : Nat → Nat} (hG : Gok G1 ad A) {o : Nat} (h0 : gcl G1 o = 4) {M : Mem} {r : Int32} {M' : Mem} (hf : f_X4_values o M = some (r, M')) : Ct l (E1 A tC tA tP kK kV) D K G1 ad A yX4_values (ws_of yX4_values cX4_values 2 (some .int)) rm_X4_values .int [.ref (ad o)] M r M' := by
  have hst : Est A (E1 A tC tA tP kK kV) := est1
  refine Ct.ofW (by decide) (Nat.le_of_ble_eq_true rfl) ?_
  intro p e s m args below meth c Q H locs ls S hK hE hP hS hl hret
  have hx := S.1
  have hb := S.2.1
  have hown := S.2.2.2.1
  have ht := S.2.2.2.2
  have hl : lv_has ls 2 [(0, .ref (ad o))] := hl
  unfold f_X4_values at hf
  refine lv_iconst (v := 0) hx hb dX4_values_0 (by decide) ?_
  refine lv_istore_n (lv' := [(1, .int 0), (0, .ref (ad o))]) hx hb dX4_values_1 rfl hl (by decide) rfl (fun ls hl => ?_)
  obtain ⟨F2, hF2, hf⟩ := it1_g hf
  have L2 : ∀ (n : Nat) (v1 : Int32) (M : Mem) (H : Heap) (locs : List Loc) (ls : Array Slot), lv_has ls 2 [(0, .ref (ad o)), (1, .int v1)] → va_P D classes (gws K G1 ad M) H → va_S A s.heap H locs → it1 F2 n v1 M = some (r, M') → W p l e rm_X4_values s m args below meth c H locs 0 0 Q (F0 m 2 ls []) := by
    intro n
    induction n with
    | zero => intro v1 M H locs ls hl hP hS hf; exact nomatch hf
    | succ n ih2 =>
      intro v1 M H locs ls hl hP hS hf
      obtain ⟨rc2, hrc2, hf⟩ := it1_w hf
      rw [← hrc2] at ih2
      rw [hF2] at hf
      refine lv_iload_n hx hb dX4_values_2 rfl (lv_at hl 1 rfl) ?_
      refine lv_aload_n hx hb dX4_values_3 rfl (lv_at hl 0 rfl) ?_
      refine gf_X4_19 S hK hP h0 dX4_values_4 hf (fun x3 hf => ?_)
      refine r_icmp_ge (tgt := 32) S dX4_values_7 (by decide) hf (fun hf => ?_) (fun hf => ?_)
      · refine lv_iload_n hx hb dX4_values_32 rfl (lv_at hl 1 rfl) ?_
        exact hret _ _ _ _ _ _ dX4_values_33 hP hS rfl hf
      · refine lv_aload_n hx hb dX4_values_10 rfl (lv_at hl 0 rfl) ?_
        refine gf_X4_15 S hK hP h0 dX4_values_11 hf (fun x4 hx4 hf => ?_)
        refine lv_iload_n hx hb dX4_values_14 rfl (lv_at hl 1 rfl) ?_
        refine r_iald S hK hP hx4 dX4_values_15 hf (fun x5 hf => ?_)
        refine lv_iconst (v := 0) hx hb dX4_values_16 (by decide) ?_
        refine lv_sipush (v := 9999) hx hb dX4_values_17 (by decide) ?_
        refine r_callSN (As := [.int x5, .int 0, .int 9999]) (rest := []) S hK hE hst hP hS (cw_X4_28 ht hE ⟨Nat.le_of_ble_eq_true rfl, Nat.le_of_ble_eq_true rfl⟩) rfl hl.1 rfl (Nat.le_of_ble_eq_true rfl) dX4_values_20 z2 (fun _ _ h => c_X9_within hG  h) hf (fun x6 M H locs hP hS bx6 hf => ?_)
        refine r_if_eq (tgt := 32) S dX4_values_23 (by decide) hf (fun hf => ?_) (fun hf => ?_)
        · refine lv_iload_n hx hb dX4_values_32 rfl (lv_at hl 1 rfl) ?_
          exact hret _ _ _ _ _ _ dX4_values_33 hP hS rfl hf
        · refine lv_iinc (v := (v1 + 1)) (lv' := [(1, .int (v1 + 1)), (0, .ref (ad o))]) hx hb dX4_values_26 hl (k := 1) rfl rfl (by decide) rfl (fun ls hl => ?_)
          refine lv_goto (tgt := 2) hx hb dX4_values_29 (by decide) ?_
          exact ih2 (v1 + 1) M H locs ls (lv_sub hl [1, 0] rfl) hP hS hf
  exact L2 _ 0 M H locs ls (lv_sub hl [1, 0] rfl) hP hS hf
section
variable {p : Program} {l : Launch} {e : Env} {R : Room} {s : State} {m : MethodId} {args : Array Value} {below : List Frame} {meth : Method} {c : Code} {H : Heap} {locs : List Loc} {cells slots : Nat} {Q : State → Prop} {cc : ByteArray} {pc : Nat} {ls : Array Slot} {rest : List Value} {nL : Nat} {D : va_G} {K : Ks} {ad : Nat → Nat} {A : Nat → Prop} {M : Mem} {β : Type} {z : β}
theorem pf_X5_22 (S : CallFix p m c cc nL s args Tw RX5) (hK : va_K D classes (gty K) s) (hG : Gok G1 ad A) (hP : va_P D classes (gws K G1 ad M) H) (hS : va_S A s.heap H locs) {a : Nat} {v : Int32} {kk : Mem → Option β} (ha : gcl G1 a = 5) (hdg : decode cc pc = .ok (.putfield 22, 3)) (hf : mm (up M a 1 v) kk = some z) (w : ∀ M H locs, va_P D classes (gws K G1 ad M) H → va_S A s.heap H locs → kk M = some z → W p l e R s m args below meth c H locs cells slots Q (F0 m (pc + 3) ls rest)) : W p l e R s m args below meth c H locs cells slots Q (F0 m pc ls (.int v :: .ref (ad a) :: rest)) := r_putt S hK hG hP hS (k := 1) (T := TX5) inX5 rfl (by decide) tyX5 tyX5_ok nmX5 (by decide) rfl rfl rfl ha (sf_X5_1 ha) k_355 hdg hf w
end
section
variable {p : Program} {l : Launch} {e : Env} {R : Room} {s : State} {m : MethodId} {args : Array Value} {below : List Frame} {meth : Method} {c : Code} {H : Heap} {locs : List Loc} {cells slots : Nat} {Q : State → Prop} {cc : ByteArray} {pc : Nat} {ls : Array Slot} {rest : List Value} {nL : Nat} {D : va_G} {K : Ks} {ad : Nat → Nat} {A : Nat → Prop} {M : Mem} {β : Type} {z : β}
theorem pf_X5_25 (S : CallFix p m c cc nL s args Tw RX5) (hK : va_K D classes (gty K) s) (hG : Gok G1 ad A) (hP : va_P D classes (gws K G1 ad M) H) (hS : va_S A s.heap H locs) {a : Nat} {v : Int32} {kk : Mem → Option β} (ha : gcl G1 a = 5) (hdg : decode cc pc = .ok (.putfield 25, 3)) (hf : mm (up M a 2 v) kk = some z) (w : ∀ M H locs, va_P D classes (gws K G1 ad M) H → va_S A s.heap H locs → kk M = some z → W p l e R s m args below meth c H locs cells slots Q (F0 m (pc + 3) ls rest)) : W p l e R s m args below meth c H locs cells slots Q (F0 m pc ls (.int v :: .ref (ad a) :: rest)) := r_putt S hK hG hP hS (k := 2) (T := TX5) inX5 rfl (by decide) tyX5 tyX5_ok nmX5 (by decide) rfl rfl rfl ha (sf_X5_2 ha) k_357 hdg hf w
end
def f_X5_holdFigure (o : Nat) (p1 : Int32) (p2 : Int32) (M : Mem) : Option (Int32 × Mem) :=
  mm (up M o 1 p1) fun M =>
  mm (up M o 2 p2) fun M =>
  some (0, M)
def rm_X5_holdFigure : Room := { frames := 0, cells := 0, slots := 0, locals := 0 }
set_option maxHeartbeats 4000000 in
set_option maxRecDepth 100000 in
theorem c_X5_holdFigure {l : Launch} {D : va_G} {K : Ks} {ad : Nat → Nat} {A : Nat → Prop} {tC tA tP : Nat} {kK kV : Nat → Nat} (hG : Gok G1 ad A) {o : Nat} {p1 : Int32} {p2 : Int32} (h0 : gcl G1 o = 5) {M : Mem} {r : Int32} {M' : Mem} (hf : f_X5_holdFigure o p1 p2 M = some (r, M')) : Cv l (E1 A tC tA tP kK kV) D K G1 ad A yX5_holdFigure (ws_of yX5_holdFigure cX5_holdFigure 3 none) rm_X5_holdFigure [.ref (ad o), .int p1, .int p2] M M' := by
  have hst : Est A (E1 A tC tA tP kK kV) := est1
  refine Cv.ofW (r := r) (by decide) (Nat.le_of_ble_eq_true rfl) ?_
  intro p e s m args below meth c Q H locs ls S hK hE hP hS hl hret
  have hx := S.1
  have hb := S.2.1
  have hown := S.2.2.2.1
  have ht := S.2.2.2.2
  have hl : lv_has ls 3 [(0, .ref (ad o)), (1, .int p1), (2, .int p2)] := hl
  unfold f_X5_holdFigure at hf
  refine lv_aload_n hx hb dX5_holdFigure_0 rfl (lv_at hl 0 rfl) ?_
  refine lv_iload_n hx hb dX5_holdFigure_1 rfl (lv_at hl 1 rfl) ?_
  refine pf_X5_22 S hK hG hP hS h0 dX5_holdFigure_2 hf (fun M H locs hP hS hf => ?_)
  refine lv_aload_n hx hb dX5_holdFigure_5 rfl (lv_at hl 0 rfl) ?_
  refine lv_iload_n hx hb dX5_holdFigure_6 rfl (lv_at hl 2 rfl) ?_
  refine pf_X5_25 S hK hG hP hS h0 dX5_holdFigure_7 hf (fun M H locs hP hS hf => ?_)
  exact hret _ _ _ _ _ _ dX5_holdFigure_10 hP hS hf
section
variable {p : Program} {l : Launch} {e : Env} {R : Room} {s : State} {m : MethodId} {args : Array Value} {below : List Frame} {meth : Method} {c : Code} {H : Heap} {locs : List Loc} {cells slots : Nat} {Q : State → Prop} {cc : ByteArray} {pc : Nat} {ls : Array Slot} {rest : List Value} {nL : Nat} {D : va_G} {K : Ks} {ad : Nat → Nat} {A : Nat → Prop} {M : Mem} {β : Type} {z : β}
theorem gf_X8_15 (S : CallFix p m c cc nL s args Tw RX8) (hK : va_K D classes (gty K) s) (hP : va_P D classes (gws K G1 ad M) H) {a : Nat} {kk : Nat → Option β} (ha : gcl G1 a = 8) (hdg : decode cc pc = .ok (.getfield 15, 3)) (hf : vv (grf G1 a 2) kk = some z) (w : ∀ b, gcl G1 b = 20 ∧ gsz G1 b = 14 → kk b = some z → W p l e R s m args below meth c H locs cells slots Q (F0 m (pc + 3) ls (.ref (ad b) :: rest))) : W p l e R s m args below meth c H locs cells slots Q (F0 m pc ls (.ref (ad a) :: rest)) := r_getr S hK hP (T := TX8) inX8 rfl (by decide) (by decide) ha (sf_X8_2 ha).1 k_151 hdg hf (fun b e => w b (by rw [e]; exact (sf_X8_2 ha).2))
end
section
variable {p : Program} {l : Launch} {e : Env} {R : Room} {s : State} {m : MethodId} {args : Array Value} {below : List Frame} {meth : Method} {c : Code} {H : Heap} {locs : List Loc} {cells slots : Nat} {Q : State → Prop} {cc : ByteArray} {pc : Nat} {ls : Array Slot} {rest : List Value} {nL : Nat} {D : va_G} {K : Ks} {ad : Nat → Nat} {A : Nat → Prop} {M : Mem} {β : Type} {z : β}
theorem gf_X8_18 (S : CallFix p m c cc nL s args Tw RX8) (hK : va_K D classes (gty K) s) (hP : va_P D classes (gws K G1 ad M) H) {a : Nat} {kk : Nat → Option β} (ha : gcl G1 a = 8) (hdg : decode cc pc = .ok (.getfield 18, 3)) (hf : vv (grf G1 a 3) kk = some z) (w : ∀ b, gcl G1 b = 20 ∧ gsz G1 b = 14 → kk b = some z → W p l e R s m args below meth c H locs cells slots Q (F0 m (pc + 3) ls (.ref (ad b) :: rest))) : W p l e R s m args below meth c H locs cells slots Q (F0 m pc ls (.ref (ad a) :: rest)) := r_getr S hK hP (T := TX8) inX8 rfl (by decide) (by decide) ha (sf_X8_3 ha).1 k_153 hdg hf (fun b e => w b (by rw [e]; exact (sf_X8_3 ha).2))
end
section
variable {p : Program} {l : Launch} {e : Env} {R : Room} {s : State} {m : MethodId} {args : Array Value} {below : List Frame} {meth : Method} {c : Code} {H : Heap} {locs : List Loc} {cells slots : Nat} {Q : State → Prop} {cc : ByteArray} {pc : Nat} {ls : Array Slot} {rest : List Value} {nL : Nat} {D : va_G} {K : Ks} {ad : Nat → Nat} {A : Nat → Prop} {M : Mem} {β : Type} {z : β}
theorem gf_X8_21 (S : CallFix p m c cc nL s args Tw RX8) (hK : va_K D classes (gty K) s) (hP : va_P D classes (gws K G1 ad M) H) {a : Nat} {kk : Nat → Option β} (ha : gcl G1 a = 8) (hdg : decode cc pc = .ok (.getfield 21, 3)) (hf : vv (grf G1 a 4) kk = some z) (w : ∀ b, gcl G1 b = 20 ∧ gsz G1 b = 14 → kk b = some z → W p l e R s m args below meth c H locs cells slots Q (F0 m (pc + 3) ls (.ref (ad b) :: rest))) : W p l e R s m args below meth c H locs cells slots Q (F0 m pc ls (.ref (ad a) :: rest)) := r_getr S hK hP (T := TX8) inX8 rfl (by decide) (by decide) ha (sf_X8_4 ha).1 k_155 hdg hf (fun b e => w b (by rw [e]; exact (sf_X8_4 ha).2))
end
section
variable {p : Program} {l : Launch} {e : Env} {R : Room} {s : State} {m : MethodId} {args : Array Value} {below : List Frame} {meth : Method} {c : Code} {H : Heap} {locs : List Loc} {cells slots : Nat} {Q : State → Prop} {cc : ByteArray} {pc : Nat} {ls : Array Slot} {rest : List Value} {nL : Nat} {D : va_G} {K : Ks} {ad : Nat → Nat} {A : Nat → Prop} {M : Mem} {β : Type} {z : β}
theorem gf_X8_24 (S : CallFix p m c cc nL s args Tw RX8) (hK : va_K D classes (gty K) s) (hP : va_P D classes (gws K G1 ad M) H) {a : Nat} {kk : Nat → Option β} (ha : gcl G1 a = 8) (hdg : decode cc pc = .ok (.getfield 24, 3)) (hf : vv (grf G1 a 5) kk = some z) (w : ∀ b, gcl G1 b = 20 ∧ gsz G1 b = 1344 → kk b = some z → W p l e R s m args below meth c H locs cells slots Q (F0 m (pc + 3) ls (.ref (ad b) :: rest))) : W p l e R s m args below meth c H locs cells slots Q (F0 m pc ls (.ref (ad a) :: rest)) := r_getr S hK hP (T := TX8) inX8 rfl (by decide) (by decide) ha (sf_X8_5 ha).1 k_156 hdg hf (fun b e => w b (by rw [e]; exact (sf_X8_5 ha).2))
end
section
variable {p : Program} {l : Launch} {e : Env} {R : Room} {s : State} {m : MethodId} {args : Array Value} {below : List Frame} {meth : Method} {c : Code} {H : Heap} {locs : List Loc} {cells slots : Nat} {Q : State → Prop} {cc : ByteArray} {pc : Nat} {ls : Array Slot} {rest : List Value} {nL : Nat} {D : va_G} {K : Ks} {ad : Nat → Nat} {A : Nat → Prop} {M : Mem} {β : Type} {z : β}
theorem gf_X8_30 (S : CallFix p m c cc nL s args Tw RX8) (hK : va_K D classes (gty K) s) (hP : va_P D classes (gws K G1 ad M) H) {a : Nat} {kk : Int32 → Option β} (ha : gcl G1 a = 8) (hdg : decode cc pc = .ok (.getfield 30, 3)) (hf : vv (M a 0) kk = some z) (w : ∀ x, kk x = some z → W p l e R s m args below meth c H locs cells slots Q (F0 m (pc + 3) ls (.int x :: rest))) : W p l e R s m args below meth c H locs cells slots Q (F0 m pc ls (.ref (ad a) :: rest)) := r_geti S hK hP (T := TX8) inX8 rfl (by decide) (by decide) ha (sf_X8_0 ha) k_147 hdg hf w
end
section
variable {p : Program} {l : Launch} {e : Env} {R : Room} {s : State} {m : MethodId} {args : Array Value} {below : List Frame} {meth : Method} {c : Code} {H : Heap} {locs : List Loc} {cells slots : Nat} {Q : State → Prop} {cc : ByteArray} {pc : Nat} {ls : Array Slot} {rest : List Value} {nL : Nat} {D : va_G} {K : Ks} {ad : Nat → Nat} {A : Nat → Prop} {M : Mem} {β : Type} {z : β}
theorem gf_X8_9 (S : CallFix p m c cc nL s args Tw RX8) (hK : va_K D classes (gty K) s) (hP : va_P D classes (gws K G1 ad M) H) {a : Nat} {kk : Nat → Option β} (ha : gcl G1 a = 8) (hdg : decode cc pc = .ok (.getfield 9, 3)) (hf : vv (grf G1 a 1) kk = some z) (w : ∀ b, gcl G1 b = 20 ∧ gsz G1 b = 14 → kk b = some z → W p l e R s m args below meth c H locs cells slots Q (F0 m (pc + 3) ls (.ref (ad b) :: rest))) : W p l e R s m args below meth c H locs cells slots Q (F0 m pc ls (.ref (ad a) :: rest)) := r_getr S hK hP (T := TX8) inX8 rfl (by decide) (by decide) ha (sf_X8_1 ha).1 k_149 hdg hf (fun b e => w b (by rw [e]; exact (sf_X8_1 ha).2))
end
section
variable {p : Program} {l : Launch} {e : Env} {R : Room} {s : State} {m : MethodId} {args : Array Value} {below : List Frame} {meth : Method} {c : Code} {H : Heap} {locs : List Loc} {cells slots : Nat} {Q : State → Prop} {cc : ByteArray} {pc : Nat} {ls : Array Slot} {rest : List Value} {nL : Nat} {D : va_G} {K : Ks} {ad : Nat → Nat} {A : Nat → Prop} {M : Mem} {β : Type} {z : β}
theorem pf_X8_30 (S : CallFix p m c cc nL s args Tw RX8) (hK : va_K D classes (gty K) s) (hG : Gok G1 ad A) (hP : va_P D classes (gws K G1 ad M) H) (hS : va_S A s.heap H locs) {a : Nat} {v : Int32} {kk : Mem → Option β} (ha : gcl G1 a = 8) (hdg : decode cc pc = .ok (.putfield 30, 3)) (hf : mm (up M a 0 v) kk = some z) (w : ∀ M H locs, va_P D classes (gws K G1 ad M) H → va_S A s.heap H locs → kk M = some z → W p l e R s m args below meth c H locs cells slots Q (F0 m (pc + 3) ls rest)) : W p l e R s m args below meth c H locs cells slots Q (F0 m pc ls (.int v :: .ref (ad a) :: rest)) := r_putt S hK hG hP hS (k := 0) (T := TX8) inX8 rfl (by decide) tyX8 tyX8_ok nmX8 (by decide) rfl rfl rfl ha (sf_X8_0 ha) k_147 hdg hf w
end
def f_X8_become (o : Nat) (p1 : Nat) (M : Mem) : Option (Int32 × Mem) :=
  vv (M p1 0) fun x1 =>
  mm (up M o 0 x1) fun M =>
  vv (grf G1 p1 1) fun x2 =>
  vv (grf G1 o 1) fun x3 =>
  cy M x2 0 14 x3 0 14 14 fun M =>
  vv (grf G1 p1 2) fun x4 =>
  vv (grf G1 o 2) fun x5 =>
  cy M x4 0 14 x5 0 14 14 fun M =>
  vv (grf G1 p1 3) fun x6 =>
  vv (grf G1 o 3) fun x7 =>
  cy M x6 0 14 x7 0 14 14 fun M =>
  vv (grf G1 p1 4) fun x8 =>
  vv (grf G1 o 4) fun x9 =>
  cy M x8 0 14 x9 0 14 14 fun M =>
  vv (grf G1 p1 5) fun x10 =>
  vv (grf G1 o 5) fun x11 =>
  cy M x10 0 1344 x11 0 1344 1344 fun M =>
  some (0, M)
def rm_X8_become : Room := { frames := 1, cells := 0, slots := 0, locals := 60 }
set_option maxHeartbeats 4000000 in
set_option maxRecDepth 100000 in
theorem c_X8_become {l : Launch} {D : va_G} {K : Ks} {ad : Nat → Nat} {A : Nat → Prop} {tC tA tP : Nat} {kK kV : Nat → Nat} (hG : Gok G1 ad A) {o : Nat} {p1 : Nat} (h0 : gcl G1 o = 8) (h1 : gcl G1 p1 = 8) {M : Mem} {r : Int32} {M' : Mem} (hf : f_X8_become o p1 M = some (r, M')) : Cv l (E1 A tC tA tP kK kV) D K G1 ad A yX8_become (ws_of yX8_become cX8_become 2 none) rm_X8_become [.ref (ad o), .ref (ad p1)] M M' := by
  have hst : Est A (E1 A tC tA tP kK kV) := est1
  refine Cv.ofW (r := r) (by decide) (Nat.le_of_ble_eq_true rfl) ?_
  intro p e s m args below meth c Q H locs ls S hK hE hP hS hl hret
  have hx := S.1
  have hb := S.2.1
  have hown := S.2.2.2.1
  have ht := S.2.2.2.2
  have hl : lv_has ls 2 [(0, .ref (ad o)), (1, .ref (ad p1))] := hl
  unfold f_X8_become at hf
  refine lv_aload_n hx hb dX8_become_0 rfl (lv_at hl 0 rfl) ?_
  refine lv_aload_n hx hb dX8_become_1 rfl (lv_at hl 1 rfl) ?_
  refine gf_X8_30 S hK hP h1 dX8_become_2 hf (fun x1 hf => ?_)
  refine pf_X8_30 S hK hG hP hS h0 dX8_become_5 hf (fun M H locs hP hS hf => ?_)
  refine lv_aload_n hx hb dX8_become_8 rfl (lv_at hl 1 rfl) ?_
  refine gf_X8_9 S hK hP h1 dX8_become_9 hf (fun x2 hx2 hf => ?_)
  refine lv_iconst (v := 0) hx hb dX8_become_12 (by decide) ?_
  refine lv_aload_n hx hb dX8_become_13 rfl (lv_at hl 0 rfl) ?_
  refine gf_X8_9 S hK hP h0 dX8_become_14 hf (fun x3 hx3 hf => ?_)
  refine lv_iconst (v := 0) hx hb dX8_become_17 (by decide) ?_
  refine lv_bipush (v := 14) hx hb dX8_become_18 (by decide) ?_
  refine r_copy S hK hG hP hS hx2 hx3 k_727 k_729 k_728 k_80 hl.1 (Nat.le_of_ble_eq_true rfl) (Nat.le_of_ble_eq_true rfl) dX8_become_20 hf (fun M H locs hP hS hf => ?_)
  refine lv_aload_n hx hb dX8_become_23 rfl (lv_at hl 1 rfl) ?_
  refine gf_X8_15 S hK hP h1 dX8_become_24 hf (fun x4 hx4 hf => ?_)
  refine lv_iconst (v := 0) hx hb dX8_become_27 (by decide) ?_
  refine lv_aload_n hx hb dX8_become_28 rfl (lv_at hl 0 rfl) ?_
  refine gf_X8_15 S hK hP h0 dX8_become_29 hf (fun x5 hx5 hf => ?_)
  refine lv_iconst (v := 0) hx hb dX8_become_32 (by decide) ?_
  refine lv_bipush (v := 14) hx hb dX8_become_33 (by decide) ?_
  refine r_copy S hK hG hP hS hx4 hx5 k_727 k_729 k_728 k_80 hl.1 (Nat.le_of_ble_eq_true rfl) (Nat.le_of_ble_eq_true rfl) dX8_become_35 hf (fun M H locs hP hS hf => ?_)
  refine lv_aload_n hx hb dX8_become_38 rfl (lv_at hl 1 rfl) ?_
  refine gf_X8_18 S hK hP h1 dX8_become_39 hf (fun x6 hx6 hf => ?_)
  refine lv_iconst (v := 0) hx hb dX8_become_42 (by decide) ?_
  refine lv_aload_n hx hb dX8_become_43 rfl (lv_at hl 0 rfl) ?_
  refine gf_X8_18 S hK hP h0 dX8_become_44 hf (fun x7 hx7 hf => ?_)
  refine lv_iconst (v := 0) hx hb dX8_become_47 (by decide) ?_
  refine lv_bipush (v := 14) hx hb dX8_become_48 (by decide) ?_
  refine r_copy S hK hG hP hS hx6 hx7 k_727 k_729 k_728 k_80 hl.1 (Nat.le_of_ble_eq_true rfl) (Nat.le_of_ble_eq_true rfl) dX8_become_50 hf (fun M H locs hP hS hf => ?_)
  refine lv_aload_n hx hb dX8_become_53 rfl (lv_at hl 1 rfl) ?_
  refine gf_X8_21 S hK hP h1 dX8_become_54 hf (fun x8 hx8 hf => ?_)
  refine lv_iconst (v := 0) hx hb dX8_become_57 (by decide) ?_
  refine lv_aload_n hx hb dX8_become_58 rfl (lv_at hl 0 rfl) ?_
  refine gf_X8_21 S hK hP h0 dX8_become_59 hf (fun x9 hx9 hf => ?_)
  refine lv_iconst (v := 0) hx hb dX8_become_62 (by decide) ?_
  refine lv_bipush (v := 14) hx hb dX8_become_63 (by decide) ?_
  refine r_copy S hK hG hP hS hx8 hx9 k_727 k_729 k_728 k_80 hl.1 (Nat.le_of_ble_eq_true rfl) (Nat.le_of_ble_eq_true rfl) dX8_become_65 hf (fun M H locs hP hS hf => ?_)
  refine lv_aload_n hx hb dX8_become_68 rfl (lv_at hl 1 rfl) ?_
  refine gf_X8_24 S hK hP h1 dX8_become_69 hf (fun x10 hx10 hf => ?_)
  refine lv_iconst (v := 0) hx hb dX8_become_72 (by decide) ?_
  refine lv_aload_n hx hb dX8_become_73 rfl (lv_at hl 0 rfl) ?_
  refine gf_X8_24 S hK hP h0 dX8_become_74 hf (fun x11 hx11 hf => ?_)
  refine lv_iconst (v := 0) hx hb dX8_become_77 (by decide) ?_
  refine lv_sipush (v := 1344) hx hb dX8_become_78 (by decide) ?_
  refine r_copy S hK hG hP hS hx10 hx11 k_727 k_729 k_728 k_80 hl.1 (Nat.le_of_ble_eq_true rfl) (Nat.le_of_ble_eq_true rfl) dX8_become_81 hf (fun M H locs hP hS hf => ?_)
  exact hret _ _ _ _ _ _ dX8_become_84 hP hS hf
theorem cw_X6_60 {R : Room} {s : State} {args : Array Value} (ht : ∀ w ∈ Tw, w.before args s = true) (hR : rm_X0_become.frames + 1 ≤ R.frames ∧ 8 + (2 + 11) + rm_X0_become.locals ≤ R.locals) : CallW R s args RX6 RX0 60 yX0_become cX0_become 2 none (ws_of yX0_become cX0_become 2 none) rm_X0_become 0 0 1 := cw_V 1 ht k_1058 k_1059 k_1060 k_65 k_1061 (by decide +kernel) rfl rfl hR
theorem cw_X6_64 {R : Room} {s : State} {args : Array Value} (ht : ∀ w ∈ Tw, w.before args s = true) (hR : rm_X8_become.frames + 1 ≤ R.frames ∧ 8 + (2 + 11) + rm_X8_become.locals ≤ R.locals) : CallW R s args RX6 RX8 64 yX8_become cX8_become 2 none (ws_of yX8_become cX8_become 2 none) rm_X8_become 0 0 1 := cw_V 1 ht k_1063 k_1064 k_1065 k_66 k_1066 (by decide +kernel) rfl rfl hR
theorem cw_X6_67 {R : Room} {s : State} {args : Array Value} (ht : ∀ w ∈ Tw, w.before args s = true) (hR : rm_X3_become.frames + 1 ≤ R.frames ∧ 8 + (2 + 11) + rm_X3_become.locals ≤ R.locals) : CallW R s args RX6 RX3 67 yX3_become cX3_become 2 none (ws_of yX3_become cX3_become 2 none) rm_X3_become 0 0 1 := cw_V 1 ht k_1067 k_1068 k_1069 k_67 k_1070 (by decide +kernel) rfl rfl hR
theorem cw_X6_70 {R : Room} {s : State} {args : Array Value} (ht : ∀ w ∈ Tw, w.before args s = true) (hR : rm_X2_become.frames + 1 ≤ R.frames ∧ 8 + (2 + 11) + rm_X2_become.locals ≤ R.locals) : CallW R s args RX6 RX2 70 yX2_become cX2_become 2 none (ws_of yX2_become cX2_become 2 none) rm_X2_become 0 0 1 := cw_V 1 ht k_1072 k_1073 k_1074 k_68 k_1075 (by decide +kernel) rfl rfl hR
theorem cw_X6_73 {R : Room} {s : State} {args : Array Value} (ht : ∀ w ∈ Tw, w.before args s = true) (hR : rm_X1_become.frames + 1 ≤ R.frames ∧ 8 + (2 + 11) + rm_X1_become.locals ≤ R.locals) : CallW R s args RX6 RX1 73 yX1_become cX1_become 2 none (ws_of yX1_become cX1_become 2 none) rm_X1_become 0 0 1 := cw_V 1 ht k_1077 k_1078 k_1079 k_69 k_1080 (by decide +kernel) rfl rfl hR
section
variable {p : Program} {l : Launch} {e : Env} {R : Room} {s : State} {m : MethodId} {args : Array Value} {below : List Frame} {meth : Method} {c : Code} {H : Heap} {locs : List Loc} {cells slots : Nat} {Q : State → Prop} {cc : ByteArray} {pc : Nat} {ls : Array Slot} {rest : List Value} {nL : Nat} {D : va_G} {K : Ks} {ad : Nat → Nat} {A : Nat → Prop} {M : Mem} {β : Type} {z : β}
theorem gf_X6_12 (S : CallFix p m c cc nL s args Tw RX6) (hK : va_K D classes (gty K) s) (hP : va_P D classes (gws K G1 ad M) H) {a : Nat} {kk : Nat → Option β} (ha : gcl G1 a = 6) (hdg : decode cc pc = .ok (.getfield 12, 3)) (hf : vv (grf G1 a 0) kk = some z) (w : ∀ b, gcl G1 b = 0 → kk b = some z → W p l e R s m args below meth c H locs cells slots Q (F0 m (pc + 3) ls (.ref (ad b) :: rest))) : W p l e R s m args below meth c H locs cells slots Q (F0 m pc ls (.ref (ad a) :: rest)) := r_getr S hK hP (T := TX6) inX6 rfl (by decide) (by decide) ha (sf_X6_0 ha).1 k_236 hdg hf (fun b e => w b (by rw [e]; exact (sf_X6_0 ha).2))
end
section
variable {p : Program} {l : Launch} {e : Env} {R : Room} {s : State} {m : MethodId} {args : Array Value} {below : List Frame} {meth : Method} {c : Code} {H : Heap} {locs : List Loc} {cells slots : Nat} {Q : State → Prop} {cc : ByteArray} {pc : Nat} {ls : Array Slot} {rest : List Value} {nL : Nat} {D : va_G} {K : Ks} {ad : Nat → Nat} {A : Nat → Prop} {M : Mem} {β : Type} {z : β}
theorem gf_X6_21 (S : CallFix p m c cc nL s args Tw RX6) (hK : va_K D classes (gty K) s) (hP : va_P D classes (gws K G1 ad M) H) {a : Nat} {kk : Nat → Option β} (ha : gcl G1 a = 6) (hdg : decode cc pc = .ok (.getfield 21, 3)) (hf : vv (grf G1 a 1) kk = some z) (w : ∀ b, gcl G1 b = 8 → kk b = some z → W p l e R s m args below meth c H locs cells slots Q (F0 m (pc + 3) ls (.ref (ad b) :: rest))) : W p l e R s m args below meth c H locs cells slots Q (F0 m pc ls (.ref (ad a) :: rest)) := r_getr S hK hP (T := TX6) inX6 rfl (by decide) (by decide) ha (sf_X6_1 ha).1 k_238 hdg hf (fun b e => w b (by rw [e]; exact (sf_X6_1 ha).2))
end
section
variable {p : Program} {l : Launch} {e : Env} {R : Room} {s : State} {m : MethodId} {args : Array Value} {below : List Frame} {meth : Method} {c : Code} {H : Heap} {locs : List Loc} {cells slots : Nat} {Q : State → Prop} {cc : ByteArray} {pc : Nat} {ls : Array Slot} {rest : List Value} {nL : Nat} {D : va_G} {K : Ks} {ad : Nat → Nat} {A : Nat → Prop} {M : Mem} {β : Type} {z : β}
theorem gf_X6_28 (S : CallFix p m c cc nL s args Tw RX6) (hK : va_K D classes (gty K) s) (hP : va_P D classes (gws K G1 ad M) H) {a : Nat} {kk : Nat → Option β} (ha : gcl G1 a = 6) (hdg : decode cc pc = .ok (.getfield 28, 3)) (hf : vv (grf G1 a 2) kk = some z) (w : ∀ b, gcl G1 b = 3 → kk b = some z → W p l e R s m args below meth c H locs cells slots Q (F0 m (pc + 3) ls (.ref (ad b) :: rest))) : W p l e R s m args below meth c H locs cells slots Q (F0 m pc ls (.ref (ad a) :: rest)) := r_getr S hK hP (T := TX6) inX6 rfl (by decide) (by decide) ha (sf_X6_2 ha).1 k_240 hdg hf (fun b e => w b (by rw [e]; exact (sf_X6_2 ha).2))
end
section
variable {p : Program} {l : Launch} {e : Env} {R : Room} {s : State} {m : MethodId} {args : Array Value} {below : List Frame} {meth : Method} {c : Code} {H : Heap} {locs : List Loc} {cells slots : Nat} {Q : State → Prop} {cc : ByteArray} {pc : Nat} {ls : Array Slot} {rest : List Value} {nL : Nat} {D : va_G} {K : Ks} {ad : Nat → Nat} {A : Nat → Prop} {M : Mem} {β : Type} {z : β}
theorem gf_X6_35 (S : CallFix p m c cc nL s args Tw RX6) (hK : va_K D classes (gty K) s) (hP : va_P D classes (gws K G1 ad M) H) {a : Nat} {kk : Nat → Option β} (ha : gcl G1 a = 6) (hdg : decode cc pc = .ok (.getfield 35, 3)) (hf : vv (grf G1 a 3) kk = some z) (w : ∀ b, gcl G1 b = 2 → kk b = some z → W p l e R s m args below meth c H locs cells slots Q (F0 m (pc + 3) ls (.ref (ad b) :: rest))) : W p l e R s m args below meth c H locs cells slots Q (F0 m pc ls (.ref (ad a) :: rest)) := r_getr S hK hP (T := TX6) inX6 rfl (by decide) (by decide) ha (sf_X6_3 ha).1 k_242 hdg hf (fun b e => w b (by rw [e]; exact (sf_X6_3 ha).2))
end
section
variable {p : Program} {l : Launch} {e : Env} {R : Room} {s : State} {m : MethodId} {args : Array Value} {below : List Frame} {meth : Method} {c : Code} {H : Heap} {locs : List Loc} {cells slots : Nat} {Q : State → Prop} {cc : ByteArray} {pc : Nat} {ls : Array Slot} {rest : List Value} {nL : Nat} {D : va_G} {K : Ks} {ad : Nat → Nat} {A : Nat → Prop} {M : Mem} {β : Type} {z : β}
theorem gf_X6_42 (S : CallFix p m c cc nL s args Tw RX6) (hK : va_K D classes (gty K) s) (hP : va_P D classes (gws K G1 ad M) H) {a : Nat} {kk : Nat → Option β} (ha : gcl G1 a = 6) (hdg : decode cc pc = .ok (.getfield 42, 3)) (hf : vv (grf G1 a 4) kk = some z) (w : ∀ b, gcl G1 b = 1 → kk b = some z → W p l e R s m args below meth c H locs cells slots Q (F0 m (pc + 3) ls (.ref (ad b) :: rest))) : W p l e R s m args below meth c H locs cells slots Q (F0 m pc ls (.ref (ad a) :: rest)) := r_getr S hK hP (T := TX6) inX6 rfl (by decide) (by decide) ha (sf_X6_4 ha).1 k_244 hdg hf (fun b e => w b (by rw [e]; exact (sf_X6_4 ha).2))
end
section
variable {p : Program} {l : Launch} {e : Env} {R : Room} {s : State} {m : MethodId} {args : Array Value} {below : List Frame} {meth : Method} {c : Code} {H : Heap} {locs : List Loc} {cells slots : Nat} {Q : State → Prop} {cc : ByteArray} {pc : Nat} {ls : Array Slot} {rest : List Value} {nL : Nat} {D : va_G} {K : Ks} {ad : Nat → Nat} {A : Nat → Prop} {M : Mem} {β : Type} {z : β}
theorem gf_X6_46 (S : CallFix p m c cc nL s args Tw RX6) (hK : va_K D classes (gty K) s) (hP : va_P D classes (gws K G1 ad M) H) {a : Nat} {kk : Nat → Option β} (ha : gcl G1 a = 6) (hdg : decode cc pc = .ok (.getfield 46, 3)) (hf : vv (grf G1 a 5) kk = some z) (w : ∀ b, gcl G1 b = 20 ∧ gsz G1 b = 6 → kk b = some z → W p l e R s m args below meth c H locs cells slots Q (F0 m (pc + 3) ls (.ref (ad b) :: rest))) : W p l e R s m args below meth c H locs cells slots Q (F0 m pc ls (.ref (ad a) :: rest)) := r_getr S hK hP (T := TX6) inX6 rfl (by decide) (by decide) ha (sf_X6_5 ha).1 k_246 hdg hf (fun b e => w b (by rw [e]; exact (sf_X6_5 ha).2))
end
section
variable {p : Program} {l : Launch} {e : Env} {R : Room} {s : State} {m : MethodId} {args : Array Value} {below : List Frame} {meth : Method} {c : Code} {H : Heap} {locs : List Loc} {cells slots : Nat} {Q : State → Prop} {cc : ByteArray} {pc : Nat} {ls : Array Slot} {rest : List Value} {nL : Nat} {D : va_G} {K : Ks} {ad : Nat → Nat} {A : Nat → Prop} {M : Mem} {β : Type} {z : β}
theorem gf_X6_50 (S : CallFix p m c cc nL s args Tw RX6) (hK : va_K D classes (gty K) s) (hP : va_P D classes (gws K G1 ad M) H) {a : Nat} {kk : Int32 → Option β} (ha : gcl G1 a = 6) (hdg : decode cc pc = .ok (.getfield 50, 3)) (hf : vv (M a 7) kk = some z) (w : ∀ x, kk x = some z → W p l e R s m args below meth c H locs cells slots Q (F0 m (pc + 3) ls (.int x :: rest))) : W p l e R s m args below meth c H locs cells slots Q (F0 m pc ls (.ref (ad a) :: rest)) := r_geti S hK hP (T := TX6) inX6 rfl (by decide) (by decide) ha (sf_X6_7 ha) k_250 hdg hf w
end
section
variable {p : Program} {l : Launch} {e : Env} {R : Room} {s : State} {m : MethodId} {args : Array Value} {below : List Frame} {meth : Method} {c : Code} {H : Heap} {locs : List Loc} {cells slots : Nat} {Q : State → Prop} {cc : ByteArray} {pc : Nat} {ls : Array Slot} {rest : List Value} {nL : Nat} {D : va_G} {K : Ks} {ad : Nat → Nat} {A : Nat → Prop} {M : Mem} {β : Type} {z : β}
theorem gf_X6_54 (S : CallFix p m c cc nL s args Tw RX6) (hK : va_K D classes (gty K) s) (hP : va_P D classes (gws K G1 ad M) H) {a : Nat} {kk : Int32 → Option β} (ha : gcl G1 a = 6) (hdg : decode cc pc = .ok (.getfield 54, 3)) (hf : vv (M a 8) kk = some z) (w : ∀ x, kk x = some z → W p l e R s m args below meth c H locs cells slots Q (F0 m (pc + 3) ls (.int x :: rest))) : W p l e R s m args below meth c H locs cells slots Q (F0 m pc ls (.ref (ad a) :: rest)) := r_geti S hK hP (T := TX6) inX6 rfl (by decide) (by decide) ha (sf_X6_8 ha) k_252 hdg hf w
end
section
variable {p : Program} {l : Launch} {e : Env} {R : Room} {s : State} {m : MethodId} {args : Array Value} {below : List Frame} {meth : Method} {c : Code} {H : Heap} {locs : List Loc} {cells slots : Nat} {Q : State → Prop} {cc : ByteArray} {pc : Nat} {ls : Array Slot} {rest : List Value} {nL : Nat} {D : va_G} {K : Ks} {ad : Nat → Nat} {A : Nat → Prop} {M : Mem} {β : Type} {z : β}
theorem gf_X6_82 (S : CallFix p m c cc nL s args Tw RX6) (hK : va_K D classes (gty K) s) (hP : va_P D classes (gws K G1 ad M) H) {a : Nat} {kk : Int32 → Option β} (ha : gcl G1 a = 6) (hdg : decode cc pc = .ok (.getfield 82, 3)) (hf : vv (M a 6) kk = some z) (w : ∀ x, kk x = some z → W p l e R s m args below meth c H locs cells slots Q (F0 m (pc + 3) ls (.int x :: rest))) : W p l e R s m args below meth c H locs cells slots Q (F0 m pc ls (.ref (ad a) :: rest)) := r_geti S hK hP (T := TX6) inX6 rfl (by decide) (by decide) ha (sf_X6_6 ha) k_248 hdg hf w
end
section
variable {p : Program} {l : Launch} {e : Env} {R : Room} {s : State} {m : MethodId} {args : Array Value} {below : List Frame} {meth : Method} {c : Code} {H : Heap} {locs : List Loc} {cells slots : Nat} {Q : State → Prop} {cc : ByteArray} {pc : Nat} {ls : Array Slot} {rest : List Value} {nL : Nat} {D : va_G} {K : Ks} {ad : Nat → Nat} {A : Nat → Prop} {M : Mem} {β : Type} {z : β}
theorem pf_X6_50 (S : CallFix p m c cc nL s args Tw RX6) (hK : va_K D classes (gty K) s) (hG : Gok G1 ad A) (hP : va_P D classes (gws K G1 ad M) H) (hS : va_S A s.heap H locs) {a : Nat} {v : Int32} {kk : Mem → Option β} (ha : gcl G1 a = 6) (hdg : decode cc pc = .ok (.putfield 50, 3)) (hf : mm (up M a 7 v) kk = some z) (w : ∀ M H locs, va_P D classes (gws K G1 ad M) H → va_S A s.heap H locs → kk M = some z → W p l e R s m args below meth c H locs cells slots Q (F0 m (pc + 3) ls rest)) : W p l e R s m args below meth c H locs cells slots Q (F0 m pc ls (.int v :: .ref (ad a) :: rest)) := r_putt S hK hG hP hS (k := 7) (T := TX6) inX6 rfl (by decide) tyX6 tyX6_ok nmX6 (by decide) rfl rfl rfl ha (sf_X6_7 ha) k_250 hdg hf w
end
section
variable {p : Program} {l : Launch} {e : Env} {R : Room} {s : State} {m : MethodId} {args : Array Value} {below : List Frame} {meth : Method} {c : Code} {H : Heap} {locs : List Loc} {cells slots : Nat} {Q : State → Prop} {cc : ByteArray} {pc : Nat} {ls : Array Slot} {rest : List Value} {nL : Nat} {D : va_G} {K : Ks} {ad : Nat → Nat} {A : Nat → Prop} {M : Mem} {β : Type} {z : β}
theorem pf_X6_54 (S : CallFix p m c cc nL s args Tw RX6) (hK : va_K D classes (gty K) s) (hG : Gok G1 ad A) (hP : va_P D classes (gws K G1 ad M) H) (hS : va_S A s.heap H locs) {a : Nat} {v : Int32} {kk : Mem → Option β} (ha : gcl G1 a = 6) (hdg : decode cc pc = .ok (.putfield 54, 3)) (hf : mm (up M a 8 v) kk = some z) (w : ∀ M H locs, va_P D classes (gws K G1 ad M) H → va_S A s.heap H locs → kk M = some z → W p l e R s m args below meth c H locs cells slots Q (F0 m (pc + 3) ls rest)) : W p l e R s m args below meth c H locs cells slots Q (F0 m pc ls (.int v :: .ref (ad a) :: rest)) := r_putt S hK hG hP hS (k := 8) (T := TX6) inX6 rfl (by decide) tyX6 tyX6_ok nmX6 (by decide) rfl rfl rfl ha (sf_X6_8 ha) k_252 hdg hf w
end
section
variable {p : Program} {l : Launch} {e : Env} {R : Room} {s : State} {m : MethodId} {args : Array Value} {below : List Frame} {meth : Method} {c : Code} {H : Heap} {locs : List Loc} {cells slots : Nat} {Q : State → Prop} {cc : ByteArray} {pc : Nat} {ls : Array Slot} {rest : List Value} {nL : Nat} {D : va_G} {K : Ks} {ad : Nat → Nat} {A : Nat → Prop} {M : Mem} {β : Type} {z : β}
theorem pf_X6_82 (S : CallFix p m c cc nL s args Tw RX6) (hK : va_K D classes (gty K) s) (hG : Gok G1 ad A) (hP : va_P D classes (gws K G1 ad M) H) (hS : va_S A s.heap H locs) {a : Nat} {v : Int32} {kk : Mem → Option β} (ha : gcl G1 a = 6) (hdg : decode cc pc = .ok (.putfield 82, 3)) (hf : mm (up M a 6 v) kk = some z) (w : ∀ M H locs, va_P D classes (gws K G1 ad M) H → va_S A s.heap H locs → kk M = some z → W p l e R s m args below meth c H locs cells slots Q (F0 m (pc + 3) ls rest)) : W p l e R s m args below meth c H locs cells slots Q (F0 m pc ls (.int v :: .ref (ad a) :: rest)) := r_putt S hK hG hP hS (k := 6) (T := TX6) inX6 rfl (by decide) tyX6 tyX6_ok nmX6 (by decide) rfl rfl rfl ha (sf_X6_6 ha) k_248 hdg hf w
end
def f_X6_become (o : Nat) (p1 : Nat) (M : Mem) : Option (Int32 × Mem) :=
  vv (grf G1 o 0) fun x1 =>
  vv (grf G1 p1 0) fun x2 =>
  bd (f_X0_become x1 x2 M) fun _ M =>
  vv (grf G1 o 1) fun x4 =>
  vv (grf G1 p1 1) fun x5 =>
  bd (f_X8_become x4 x5 M) fun _ M =>
  vv (grf G1 o 2) fun x7 =>
  vv (grf G1 p1 2) fun x8 =>
  bd (f_X3_become x7 x8 M) fun _ M =>
  vv (grf G1 o 3) fun x10 =>
  vv (grf G1 p1 3) fun x11 =>
  bd (f_X2_become x10 x11 M) fun _ M =>
  vv (grf G1 o 4) fun x13 =>
  vv (grf G1 p1 4) fun x14 =>
  bd (f_X1_become x13 x14 M) fun _ M =>
  vv (grf G1 p1 5) fun x16 =>
  vv (grf G1 o 5) fun x17 =>
  cy M x16 0 6 x17 0 6 6 fun M =>
  vv (M p1 6) fun x18 =>
  mm (up M o 6 x18) fun M =>
  vv (M p1 7) fun x19 =>
  mm (up M o 7 x19) fun M =>
  vv (M p1 8) fun x20 =>
  mm (up M o 8 x20) fun M =>
  some (0, M)
def rm_X6_become : Room := { frames := 2, cells := 0, slots := 0, locals := 81 }
set_option maxHeartbeats 4000000 in
set_option maxRecDepth 100000 in
theorem c_X6_become {l : Launch} {D : va_G} {K : Ks} {ad : Nat → Nat} {A : Nat → Prop} {tC tA tP : Nat} {kK kV : Nat → Nat} (hG : Gok G1 ad A) {o : Nat} {p1 : Nat} (h0 : gcl G1 o = 6) (h1 : gcl G1 p1 = 6) {M : Mem} {r : Int32} {M' : Mem} (hf : f_X6_become o p1 M = some (r, M')) : Cv l (E1 A tC tA tP kK kV) D K G1 ad A yX6_become (ws_of yX6_become cX6_become 2 none) rm_X6_become [.ref (ad o), .ref (ad p1)] M M' := by
  have hst : Est A (E1 A tC tA tP kK kV) := est1
  refine Cv.ofW (r := r) (by decide) (Nat.le_of_ble_eq_true rfl) ?_
  intro p e s m args below meth c Q H locs ls S hK hE hP hS hl hret
  have hx := S.1
  have hb := S.2.1
  have hown := S.2.2.2.1
  have ht := S.2.2.2.2
  have hl : lv_has ls 2 [(0, .ref (ad o)), (1, .ref (ad p1))] := hl
  unfold f_X6_become at hf
  refine lv_aload_n hx hb dX6_become_0 rfl (lv_at hl 0 rfl) ?_
  refine gf_X6_12 S hK hP h0 dX6_become_1 hf (fun x1 hx1 hf => ?_)
  refine lv_aload_n hx hb dX6_become_4 rfl (lv_at hl 1 rfl) ?_
  refine gf_X6_12 S hK hP h1 dX6_become_5 hf (fun x2 hx2 hf => ?_)
  refine r_callVv (As := [.ref (ad x2)]) (rest := []) S hK hE hst hP hS hx1 (by decide) rfl (cw_X6_60 ht ⟨Nat.le_of_ble_eq_true rfl, Nat.le_of_ble_eq_true rfl⟩) rfl hl.1 rfl (Nat.le_of_ble_eq_true rfl) dX6_become_8 z2 (fun _ _ h => c_X0_become hG  hx1 hx2 h) hf (fun x3 M H locs hP hS hf => ?_)
  refine lv_aload_n hx hb dX6_become_11 rfl (lv_at hl 0 rfl) ?_
  refine gf_X6_21 S hK hP h0 dX6_become_12 hf (fun x4 hx4 hf => ?_)
  refine lv_aload_n hx hb dX6_become_15 rfl (lv_at hl 1 rfl) ?_
  refine gf_X6_21 S hK hP h1 dX6_become_16 hf (fun x5 hx5 hf => ?_)
  refine r_callVv (As := [.ref (ad x5)]) (rest := []) S hK hE hst hP hS hx4 (by decide) rfl (cw_X6_64 ht ⟨Nat.le_of_ble_eq_true rfl, Nat.le_of_ble_eq_true rfl⟩) rfl hl.1 rfl (Nat.le_of_ble_eq_true rfl) dX6_become_19 z2 (fun _ _ h => c_X8_become hG  hx4 hx5 h) hf (fun x6 M H locs hP hS hf => ?_)
  refine lv_aload_n hx hb dX6_become_22 rfl (lv_at hl 0 rfl) ?_
  refine gf_X6_28 S hK hP h0 dX6_become_23 hf (fun x7 hx7 hf => ?_)
  refine lv_aload_n hx hb dX6_become_26 rfl (lv_at hl 1 rfl) ?_
  refine gf_X6_28 S hK hP h1 dX6_become_27 hf (fun x8 hx8 hf => ?_)
  refine r_callVv (As := [.ref (ad x8)]) (rest := []) S hK hE hst hP hS hx7 (by decide) rfl (cw_X6_67 ht ⟨Nat.le_of_ble_eq_true rfl, Nat.le_of_ble_eq_true rfl⟩) rfl hl.1 rfl (Nat.le_of_ble_eq_true rfl) dX6_become_30 z2 (fun _ _ h => c_X3_become hG  hx7 hx8 h) hf (fun x9 M H locs hP hS hf => ?_)
  refine lv_aload_n hx hb dX6_become_33 rfl (lv_at hl 0 rfl) ?_
  refine gf_X6_35 S hK hP h0 dX6_become_34 hf (fun x10 hx10 hf => ?_)
  refine lv_aload_n hx hb dX6_become_37 rfl (lv_at hl 1 rfl) ?_
  refine gf_X6_35 S hK hP h1 dX6_become_38 hf (fun x11 hx11 hf => ?_)
  refine r_callVv (As := [.ref (ad x11)]) (rest := []) S hK hE hst hP hS hx10 (by decide) rfl (cw_X6_70 ht ⟨Nat.le_of_ble_eq_true rfl, Nat.le_of_ble_eq_true rfl⟩) rfl hl.1 rfl (Nat.le_of_ble_eq_true rfl) dX6_become_41 z2 (fun _ _ h => c_X2_become hG  hx10 hx11 h) hf (fun x12 M H locs hP hS hf => ?_)
  refine lv_aload_n hx hb dX6_become_44 rfl (lv_at hl 0 rfl) ?_
  refine gf_X6_42 S hK hP h0 dX6_become_45 hf (fun x13 hx13 hf => ?_)
  refine lv_aload_n hx hb dX6_become_48 rfl (lv_at hl 1 rfl) ?_
  refine gf_X6_42 S hK hP h1 dX6_become_49 hf (fun x14 hx14 hf => ?_)
  refine r_callVv (As := [.ref (ad x14)]) (rest := []) S hK hE hst hP hS hx13 (by decide) rfl (cw_X6_73 ht ⟨Nat.le_of_ble_eq_true rfl, Nat.le_of_ble_eq_true rfl⟩) rfl hl.1 rfl (Nat.le_of_ble_eq_true rfl) dX6_become_52 z2 (fun _ _ h => c_X1_become hG  hx13 hx14 h) hf (fun x15 M H locs hP hS hf => ?_)
  refine lv_aload_n hx hb dX6_become_55 rfl (lv_at hl 1 rfl) ?_
  refine gf_X6_46 S hK hP h1 dX6_become_56 hf (fun x16 hx16 hf => ?_)
  refine lv_iconst (v := 0) hx hb dX6_become_59 (by decide) ?_
  refine lv_aload_n hx hb dX6_become_60 rfl (lv_at hl 0 rfl) ?_
  refine gf_X6_46 S hK hP h0 dX6_become_61 hf (fun x17 hx17 hf => ?_)
  refine lv_iconst (v := 0) hx hb dX6_become_64 (by decide) ?_
  refine lv_bipush (v := 6) hx hb dX6_become_65 (by decide) ?_
  refine r_copy S hK hG hP hS hx16 hx17 k_1082 k_729 k_728 k_80 hl.1 (Nat.le_of_ble_eq_true rfl) (Nat.le_of_ble_eq_true rfl) dX6_become_67 hf (fun M H locs hP hS hf => ?_)
  refine lv_aload_n hx hb dX6_become_70 rfl (lv_at hl 0 rfl) ?_
  refine lv_aload_n hx hb dX6_become_71 rfl (lv_at hl 1 rfl) ?_
  refine gf_X6_82 S hK hP h1 dX6_become_72 hf (fun x18 hf => ?_)
  refine pf_X6_82 S hK hG hP hS h0 dX6_become_75 hf (fun M H locs hP hS hf => ?_)
  refine lv_aload_n hx hb dX6_become_78 rfl (lv_at hl 0 rfl) ?_
  refine lv_aload_n hx hb dX6_become_79 rfl (lv_at hl 1 rfl) ?_
  refine gf_X6_50 S hK hP h1 dX6_become_80 hf (fun x19 hf => ?_)
  refine pf_X6_50 S hK hG hP hS h0 dX6_become_83 hf (fun M H locs hP hS hf => ?_)
  refine lv_aload_n hx hb dX6_become_86 rfl (lv_at hl 0 rfl) ?_
  refine lv_aload_n hx hb dX6_become_87 rfl (lv_at hl 1 rfl) ?_
  refine gf_X6_54 S hK hP h1 dX6_become_88 hf (fun x20 hf => ?_)
  refine pf_X6_54 S hK hG hP hS h0 dX6_become_91 hf (fun M H locs hP hS hf => ?_)
  exact hret _ _ _ _ _ _ dX6_become_94 hP hS hf
def f_X8_latest (o : Nat) (p1 : Int32) (p2 : Int32) (M : Mem) : Option (Int32 × Mem) :=
  vv (M o 0) fun x1 =>
  vv (x1 - 1) fun x2 =>
  it1 (fun rc4 (v3 : Int32) M =>
    if v3 < 0 then
      some ((-1000000005), M)
    else
      vv (grf G1 o 1) fun x5 =>
      ld M x5 v3 14 fun x6 =>
      if x6 = p1 then
        if p1 = 0 then
          vv (grf G1 o 2) fun x7 =>
          ld M x7 v3 14 fun x8 =>
          if x8 = p2 then
            some (v3, M)
          else
            rc4 (v3 + (-1)) M
        else
          some (v3, M)
      else
        rc4 (v3 + (-1)) M
  ) fuel x2 M
def rm_X8_latest : Room := { frames := 0, cells := 0, slots := 0, locals := 0 }
set_option maxHeartbeats 4000000 in
set_option maxRecDepth 100000 in
theorem c_X8_latest {l : Launch} {D : va_G} {K : Ks} {ad : Nat → Nat} {A : Nat → Prop} {tC tA tP : Nat} {kK kV : Nat → Nat} (hG : Gok G1 ad A) {o : Nat} {p1 : Int32} {p2 : Int32} (h0 : gcl G1 o = 8) {M : Mem} {r : Int32} {M' : Mem} (hf : f_X8_latest o p1 p2 M = some (r, M')) : Ct l (E1 A tC tA tP kK kV) D K G1 ad A yX8_latest (ws_of yX8_latest cX8_latest 4 (some .int)) rm_X8_latest .int [.ref (ad o), .int p1, .int p2] M r M' := by
  have hst : Est A (E1 A tC tA tP kK kV) := est1
  refine Ct.ofW (by decide) (Nat.le_of_ble_eq_true rfl) ?_
  intro p e s m args below meth c Q H locs ls S hK hE hP hS hl hret
  have hx := S.1
  have hb := S.2.1
  have hown := S.2.2.2.1
  have ht := S.2.2.2.2
  have hl : lv_has ls 4 [(0, .ref (ad o)), (1, .int p1), (2, .int p2)] := hl
  unfold f_X8_latest at hf
  refine lv_aload_n hx hb dX8_latest_0 rfl (lv_at hl 0 rfl) ?_
  refine gf_X8_30 S hK hP h0 dX8_latest_1 hf (fun x1 hf => ?_)
  refine lv_iconst (v := 1) hx hb dX8_latest_4 (by decide) ?_
  refine lv_isub hx hb dX8_latest_5 ?_
  refine r_vi hf (fun x2 hf => ?_)
  refine lv_istore_n (lv' := [(3, .int x2), (0, .ref (ad o)), (1, .int p1), (2, .int p2)]) hx hb dX8_latest_6 rfl hl (by decide) rfl (fun ls hl => ?_)
  obtain ⟨F4, hF4, hf⟩ := it1_g hf
  have L4 : ∀ (n : Nat) (v3 : Int32) (M : Mem) (H : Heap) (locs : List Loc) (ls : Array Slot), lv_has ls 4 [(0, .ref (ad o)), (1, .int p1), (2, .int p2), (3, .int v3)] → va_P D classes (gws K G1 ad M) H → va_S A s.heap H locs → it1 F4 n v3 M = some (r, M') → W p l e rm_X8_latest s m args below meth c H locs 0 0 Q (F0 m 7 ls []) := by
    intro n
    induction n with
    | zero => intro v3 M H locs ls hl hP hS hf; exact nomatch hf
    | succ n ih4 =>
      intro v3 M H locs ls hl hP hS hf
      obtain ⟨rc4, hrc4, hf⟩ := it1_w hf
      rw [← hrc4] at ih4
      rw [hF4] at hf
      refine lv_iload_n hx hb dX8_latest_7 rfl (lv_at hl 3 rfl) ?_
      refine r_if_lt (tgt := 43) S dX8_latest_8 (by decide) hf (fun hf => ?_) (fun hf => ?_)
      · refine lv_ldc (v := (-1000000005)) hx hb hown (ht _ k_464) dX8_latest_43 ?_
        exact hret _ _ _ _ _ _ dX8_latest_45 hP hS rfl hf
      · refine lv_aload_n hx hb dX8_latest_11 rfl (lv_at hl 0 rfl) ?_
        refine gf_X8_9 S hK hP h0 dX8_latest_12 hf (fun x5 hx5 hf => ?_)
        refine lv_iload_n hx hb dX8_latest_15 rfl (lv_at hl 3 rfl) ?_
        refine r_iald S hK hP hx5 dX8_latest_16 hf (fun x6 hf => ?_)
        refine lv_iload_n hx hb dX8_latest_17 rfl (lv_at hl 1 rfl) ?_
        refine r_icmp_ne (tgt := 37) S dX8_latest_18 (by decide) hf (fun hf => ?_) (fun hf => ?_)
        · refine lv_iinc (v := (v3 + (-1))) (lv' := [(3, .int (v3 + (-1))), (0, .ref (ad o)), (1, .int p1), (2, .int p2)]) hx hb dX8_latest_37 hl (k := 3) rfl rfl (by decide) rfl (fun ls hl => ?_)
          refine lv_goto (tgt := 7) hx hb dX8_latest_40 (by decide) ?_
          exact ih4 (v3 + (-1)) M H locs ls (lv_sub hl [1, 2, 3, 0] rfl) hP hS hf
        · refine lv_iload_n hx hb dX8_latest_21 rfl (lv_at hl 1 rfl) ?_
          refine r_if_ne (tgt := 35) S dX8_latest_22 (by decide) hf (fun hf => ?_) (fun hf => ?_)
          · refine lv_iload_n hx hb dX8_latest_35 rfl (lv_at hl 3 rfl) ?_
            exact hret _ _ _ _ _ _ dX8_latest_36 hP hS rfl hf
          · refine lv_aload_n hx hb dX8_latest_25 rfl (lv_at hl 0 rfl) ?_
            refine gf_X8_15 S hK hP h0 dX8_latest_26 hf (fun x7 hx7 hf => ?_)
            refine lv_iload_n hx hb dX8_latest_29 rfl (lv_at hl 3 rfl) ?_
            refine r_iald S hK hP hx7 dX8_latest_30 hf (fun x8 hf => ?_)
            refine lv_iload_n hx hb dX8_latest_31 rfl (lv_at hl 2 rfl) ?_
            refine r_icmp_ne (tgt := 37) S dX8_latest_32 (by decide) hf (fun hf => ?_) (fun hf => ?_)
            · refine lv_iinc (v := (v3 + (-1))) (lv' := [(3, .int (v3 + (-1))), (0, .ref (ad o)), (1, .int p1), (2, .int p2)]) hx hb dX8_latest_37 hl (k := 3) rfl rfl (by decide) rfl (fun ls hl => ?_)
              refine lv_goto (tgt := 7) hx hb dX8_latest_40 (by decide) ?_
              exact ih4 (v3 + (-1)) M H locs ls (lv_sub hl [1, 2, 3, 0] rfl) hP hS hf
            · refine lv_iload_n hx hb dX8_latest_35 rfl (lv_at hl 3 rfl) ?_
              exact hret _ _ _ _ _ _ dX8_latest_36 hP hS rfl hf
  exact L4 _ x2 M H locs ls (lv_sub hl [1, 2, 3, 0] rfl) hP hS hf
def f_X8_join (p0 : Int32) (p1 : Int32) (p2 : Int32) (M : Mem) : Option (Int32 × Mem) :=
  if p0 = 38 then
    if p1 = 0 then
      some (0, M)
    else
      if p2 = 0 then
        some (0, M)
      else
        some (1, M)
  else
  if p0 = 42 then
    some ((p1 * p2), M)
  else
  if p0 = 43 then
    some ((p1 + p2), M)
  else
  if p0 = 45 then
    some ((p1 - p2), M)
  else
  if p0 = 47 then
    if p2 = 0 then
      some (0, M)
    else
      dv p2 <|
      some ((p1 / p2), M)
  else
  if p0 = 60 then
    if p1 < p2 then
      some (1, M)
    else
      some (0, M)
  else
  if p0 = 61 then
    if p1 = p2 then
      some (1, M)
    else
      some (0, M)
  else
  if p0 = 62 then
    if p2 < p1 then
      some (1, M)
    else
      some (0, M)
  else
  if p0 = 124 then
    if p1 = 0 then
      if p2 = 0 then
        some (0, M)
      else
        some (1, M)
    else
      some (1, M)
  else
  some (0, M)
def rm_X8_join : Room := { frames := 0, cells := 0, slots := 0, locals := 0 }
set_option maxHeartbeats 4000000 in
set_option maxRecDepth 100000 in
theorem c_X8_join {l : Launch} {D : va_G} {K : Ks} {ad : Nat → Nat} {A : Nat → Prop} {tC tA tP : Nat} {kK kV : Nat → Nat} (hG : Gok G1 ad A) {p0 : Int32} {p1 : Int32} {p2 : Int32}  {M : Mem} {r : Int32} {M' : Mem} (hf : f_X8_join p0 p1 p2 M = some (r, M')) : Ct l (E1 A tC tA tP kK kV) D K G1 ad A yX8_join (ws_of yX8_join cX8_join 3 (some .int)) rm_X8_join .int [.int p0, .int p1, .int p2] M r M' := by
  have hst : Est A (E1 A tC tA tP kK kV) := est1
  refine Ct.ofW (by decide) (Nat.le_of_ble_eq_true rfl) ?_
  intro p e s m args below meth c Q H locs ls S hK hE hP hS hl hret
  have hx := S.1
  have hb := S.2.1
  have hown := S.2.2.2.1
  have ht := S.2.2.2.2
  have hl : lv_has ls 3 [(0, .int p0), (1, .int p1), (2, .int p2)] := hl
  unfold f_X8_join at hf
  refine lv_iload_n hx hb dX8_join_0 rfl (lv_at hl 0 rfl) ?_
  refine r_case hf (fun e1 hf => ?_) (fun n2 hf => ?_)
  · refine lv_lookup (x := p0) (off := 140) (tgt := 141) hx hb dX8_join_1 (by decide) (by rw [e1] <;> rfl) (by decide) ?_
    refine lv_iload_n hx hb dX8_join_141 rfl (lv_at hl 1 rfl) ?_
    refine r_if_eq (tgt := 153) S dX8_join_142 (by decide) hf (fun hf => ?_) (fun hf => ?_)
    · refine lv_iconst (v := 0) hx hb dX8_join_153 (by decide) ?_
      exact hret _ _ _ _ _ _ dX8_join_154 hP hS rfl hf
    · refine lv_iload_n hx hb dX8_join_145 rfl (lv_at hl 2 rfl) ?_
      refine r_if_eq (tgt := 153) S dX8_join_146 (by decide) hf (fun hf => ?_) (fun hf => ?_)
      · refine lv_iconst (v := 0) hx hb dX8_join_153 (by decide) ?_
        exact hret _ _ _ _ _ _ dX8_join_154 hP hS rfl hf
      · refine lv_iconst (v := 1) hx hb dX8_join_149 (by decide) ?_
        refine lv_goto (tgt := 154) hx hb dX8_join_150 (by decide) ?_
        exact hret _ _ _ _ _ _ dX8_join_154 hP hS rfl hf
  refine r_case hf (fun e3 hf => ?_) (fun n4 hf => ?_)
  · refine lv_lookup (x := p0) (off := 91) (tgt := 92) hx hb dX8_join_1 (by decide) (by rw [e3] <;> rfl) (by decide) ?_
    refine lv_iload_n hx hb dX8_join_92 rfl (lv_at hl 1 rfl) ?_
    refine lv_iload_n hx hb dX8_join_93 rfl (lv_at hl 2 rfl) ?_
    refine lv_imul hx hb dX8_join_94 ?_
    exact hret _ _ _ _ _ _ dX8_join_95 hP hS rfl hf
  refine r_case hf (fun e5 hf => ?_) (fun n6 hf => ?_)
  · refine lv_lookup (x := p0) (off := 83) (tgt := 84) hx hb dX8_join_1 (by decide) (by rw [e5] <;> rfl) (by decide) ?_
    refine lv_iload_n hx hb dX8_join_84 rfl (lv_at hl 1 rfl) ?_
    refine lv_iload_n hx hb dX8_join_85 rfl (lv_at hl 2 rfl) ?_
    refine lv_iadd hx hb dX8_join_86 ?_
    exact hret _ _ _ _ _ _ dX8_join_87 hP hS rfl hf
  refine r_case hf (fun e7 hf => ?_) (fun n8 hf => ?_)
  · refine lv_lookup (x := p0) (off := 87) (tgt := 88) hx hb dX8_join_1 (by decide) (by rw [e7] <;> rfl) (by decide) ?_
    refine lv_iload_n hx hb dX8_join_88 rfl (lv_at hl 1 rfl) ?_
    refine lv_iload_n hx hb dX8_join_89 rfl (lv_at hl 2 rfl) ?_
    refine lv_isub hx hb dX8_join_90 ?_
    exact hret _ _ _ _ _ _ dX8_join_91 hP hS rfl hf
  refine r_case hf (fun e9 hf => ?_) (fun n10 hf => ?_)
  · refine lv_lookup (x := p0) (off := 95) (tgt := 96) hx hb dX8_join_1 (by decide) (by rw [e9] <;> rfl) (by decide) ?_
    refine lv_iload_n hx hb dX8_join_96 rfl (lv_at hl 2 rfl) ?_
    refine r_if_ne (tgt := 104) S dX8_join_97 (by decide) hf (fun hf => ?_) (fun hf => ?_)
    · refine lv_iload_n hx hb dX8_join_104 rfl (lv_at hl 1 rfl) ?_
      refine lv_iload_n hx hb dX8_join_105 rfl (lv_at hl 2 rfl) ?_
      refine r_idiv S dX8_join_106 hf (fun hf => ?_)
      exact hret _ _ _ _ _ _ dX8_join_107 hP hS rfl hf
    · refine lv_iconst (v := 0) hx hb dX8_join_100 (by decide) ?_
      refine lv_goto (tgt := 107) hx hb dX8_join_101 (by decide) ?_
      exact hret _ _ _ _ _ _ dX8_join_107 hP hS rfl hf
  refine r_case hf (fun e11 hf => ?_) (fun n12 hf => ?_)
  · refine lv_lookup (x := p0) (off := 107) (tgt := 108) hx hb dX8_join_1 (by decide) (by rw [e11] <;> rfl) (by decide) ?_
    refine lv_iload_n hx hb dX8_join_108 rfl (lv_at hl 1 rfl) ?_
    refine lv_iload_n hx hb dX8_join_109 rfl (lv_at hl 2 rfl) ?_
    refine r_icmp_ge (tgt := 117) S dX8_join_110 (by decide) hf (fun hf => ?_) (fun hf => ?_)
    · refine lv_iconst (v := 0) hx hb dX8_join_117 (by decide) ?_
      exact hret _ _ _ _ _ _ dX8_join_118 hP hS rfl hf
    · refine lv_iconst (v := 1) hx hb dX8_join_113 (by decide) ?_
      refine lv_goto (tgt := 118) hx hb dX8_join_114 (by decide) ?_
      exact hret _ _ _ _ _ _ dX8_join_118 hP hS rfl hf
  refine r_case hf (fun e13 hf => ?_) (fun n14 hf => ?_)
  · refine lv_lookup (x := p0) (off := 118) (tgt := 119) hx hb dX8_join_1 (by decide) (by rw [e13] <;> rfl) (by decide) ?_
    refine lv_iload_n hx hb dX8_join_119 rfl (lv_at hl 1 rfl) ?_
    refine lv_iload_n hx hb dX8_join_120 rfl (lv_at hl 2 rfl) ?_
    refine r_icmp_ne (tgt := 128) S dX8_join_121 (by decide) hf (fun hf => ?_) (fun hf => ?_)
    · refine lv_iconst (v := 0) hx hb dX8_join_128 (by decide) ?_
      exact hret _ _ _ _ _ _ dX8_join_129 hP hS rfl hf
    · refine lv_iconst (v := 1) hx hb dX8_join_124 (by decide) ?_
      refine lv_goto (tgt := 129) hx hb dX8_join_125 (by decide) ?_
      exact hret _ _ _ _ _ _ dX8_join_129 hP hS rfl hf
  refine r_case hf (fun e15 hf => ?_) (fun n16 hf => ?_)
  · refine lv_lookup (x := p0) (off := 129) (tgt := 130) hx hb dX8_join_1 (by decide) (by rw [e15] <;> rfl) (by decide) ?_
    refine lv_iload_n hx hb dX8_join_130 rfl (lv_at hl 1 rfl) ?_
    refine lv_iload_n hx hb dX8_join_131 rfl (lv_at hl 2 rfl) ?_
    refine r_icmp_le (tgt := 139) S dX8_join_132 (by decide) hf (fun hf => ?_) (fun hf => ?_)
    · refine lv_iconst (v := 0) hx hb dX8_join_139 (by decide) ?_
      exact hret _ _ _ _ _ _ dX8_join_140 hP hS rfl hf
    · refine lv_iconst (v := 1) hx hb dX8_join_135 (by decide) ?_
      refine lv_goto (tgt := 140) hx hb dX8_join_136 (by decide) ?_
      exact hret _ _ _ _ _ _ dX8_join_140 hP hS rfl hf
  refine r_case hf (fun e17 hf => ?_) (fun n18 hf => ?_)
  · refine lv_lookup (x := p0) (off := 154) (tgt := 155) hx hb dX8_join_1 (by decide) (by rw [e17] <;> rfl) (by decide) ?_
    refine lv_iload_n hx hb dX8_join_155 rfl (lv_at hl 1 rfl) ?_
    refine r_if_ne (tgt := 163) S dX8_join_156 (by decide) hf (fun hf => ?_) (fun hf => ?_)
    · refine lv_iconst (v := 1) hx hb dX8_join_163 (by decide) ?_
      refine lv_goto (tgt := 168) hx hb dX8_join_164 (by decide) ?_
      exact hret _ _ _ _ _ _ dX8_join_168 hP hS rfl hf
    · refine lv_iload_n hx hb dX8_join_159 rfl (lv_at hl 2 rfl) ?_
      refine r_if_eq (tgt := 167) S dX8_join_160 (by decide) hf (fun hf => ?_) (fun hf => ?_)
      · refine lv_iconst (v := 0) hx hb dX8_join_167 (by decide) ?_
        exact hret _ _ _ _ _ _ dX8_join_168 hP hS rfl hf
      · refine lv_iconst (v := 1) hx hb dX8_join_163 (by decide) ?_
        refine lv_goto (tgt := 168) hx hb dX8_join_164 (by decide) ?_
        exact hret _ _ _ _ _ _ dX8_join_168 hP hS rfl hf
  refine lv_lookup (x := p0) (off := 168) (tgt := 169) hx hb dX8_join_1 (by decide) (by show Op.lookupswitch.offset [(38, 140), (42, 91), (43, 83), (45, 87), (47, 95), (60, 107), (61, 118), (62, 129), (124, 154)] _ _ = _; rw [lv_osw n2 (by decide), lv_osw n4 (by decide), lv_osw n6 (by decide), lv_osw n8 (by decide), lv_osw n10 (by decide), lv_osw n12 (by decide), lv_osw n14 (by decide), lv_osw n16 (by decide), lv_osw n18 (by decide)] <;> rfl) (by decide) ?_
  refine lv_iconst (v := 0) hx hb dX8_join_169 (by decide) ?_
  exact hret _ _ _ _ _ _ dX8_join_170 hP hS rfl hf
theorem cw_X8_54 {R : Room} {s : State} {args : Array Value} (ht : ∀ w ∈ Tw, w.before args s = true) (hR : rm_X8_join.frames + 1 ≤ R.frames ∧ 8 + (3 + 11) + rm_X8_join.locals ≤ R.locals) : CallB R s args RX8 54 yX8_join cX8_join 3 (some .int) (ws_of yX8_join cX8_join 3 (some .int)) rm_X8_join 0 0 3 ∧ (Cond.static yX8_join).before args s = true := cw_S 3 ht k_470 k_471 k_66 k_472 (by decide +kernel) rfl rfl hR
section
variable {p : Program} {l : Launch} {e : Env} {R : Room} {s : State} {m : MethodId} {args : Array Value} {below : List Frame} {meth : Method} {c : Code} {H : Heap} {locs : List Loc} {cells slots : Nat} {Q : State → Prop} {cc : ByteArray} {pc : Nat} {ls : Array Slot} {rest : List Value} {nL : Nat} {D : va_G} {K : Ks} {ad : Nat → Nat} {A : Nat → Prop} {M : Mem} {β : Type} {z : β}
theorem gf_X8_27 (S : CallFix p m c cc nL s args Tw RX8) (hK : va_K D classes (gty K) s) (hP : va_P D classes (gws K G1 ad M) H) {a : Nat} {kk : Nat → Option β} (ha : gcl G1 a = 8) (hdg : decode cc pc = .ok (.getfield 27, 3)) (hf : vv (grf G1 a 6) kk = some z) (w : ∀ b, gcl G1 b = 20 ∧ gsz G1 b = 96 → kk b = some z → W p l e R s m args below meth c H locs cells slots Q (F0 m (pc + 3) ls (.ref (ad b) :: rest))) : W p l e R s m args below meth c H locs cells slots Q (F0 m pc ls (.ref (ad a) :: rest)) := r_getr S hK hP (T := TX8) inX8 rfl (by decide) (by decide) ha (sf_X8_6 ha).1 k_157 hdg hf (fun b e => w b (by rw [e]; exact (sf_X8_6 ha).2))
end
def f_X8_give (o : Nat) (p1 : Int32) (p2 : Int32) (p3 : Int32) (p4 : Int32) (M : Mem) : Option (Int32 × Mem) :=
  if p1 < 0 then
    some (0, M)
  else
    vv (M o 0) fun x1 =>
    if p1 < x1 then
      it2 (fun rc4 (v2 : Int32) (v3 : Int32) M =>
        vv (grf G1 o 4) fun x5 =>
        ld M x5 p1 14 fun x6 =>
        if v3 < x6 then
          vv (grf G1 o 5) fun x9 =>
          ld M x9 ((p1 * 96) + v3) 1344 fun x10 =>
          if x10 < (-3) then
            if x10 = (-33) then
              if v2 < 1 then
                some (0, M)
              else
                vv (grf G1 o 6) fun x17 =>
                vv (grf G1 o 6) fun x18 =>
                ld M x18 (v2 - 1) 96 fun x19 =>
                jn (fun (v20 : Int32) (M : Mem) =>
                  st M x17 (v2 - 1) 96 v20 fun M =>
                  rc4 v2 (v3 + 1) M
                ) fun k21 =>
                if x19 = 0 then
                  k21 1 M
                else
                  k21 0 M
            else
              if v2 < 2 then
                some (0, M)
              else
                vv (grf G1 o 6) fun x11 =>
                vv (grf G1 o 6) fun x12 =>
                ld M x12 (v2 - 2) 96 fun x13 =>
                vv (grf G1 o 6) fun x14 =>
                ld M x14 (v2 - 1) 96 fun x15 =>
                bd (f_X8_join (-x10) x13 x15 M) fun x16 M =>
                st M x11 (v2 - 2) 96 x16 fun M =>
                rc4 (v2 + (-1)) (v3 + 1) M
          else
            if v2 < 96 then
              vv (grf G1 o 6) fun x22 =>
              jn (fun (v23 : Int32) (M : Mem) =>
                st M x22 v2 96 v23 fun M =>
                rc4 (v2 + 1) (v3 + 1) M
              ) fun k24 =>
              if x10 < 0 then
                if x10 = (-1) then
                  k24 p2 M
                else
                  if x10 = (-2) then
                    k24 p3 M
                  else
                    k24 p4 M
              else
                k24 x10 M
            else
              some (0, M)
        else
          if 0 < v2 then
            vv (grf G1 o 6) fun x7 =>
            ld M x7 (v2 - 1) 96 fun x8 =>
            some (x8, M)
          else
            some (0, M)
      ) fuel 0 0 M
    else
      some (0, M)
def rm_X8_give : Room := { frames := 1, cells := 0, slots := 0, locals := 22 }
set_option maxHeartbeats 4000000 in
set_option maxRecDepth 100000 in
theorem c_X8_give {l : Launch} {D : va_G} {K : Ks} {ad : Nat → Nat} {A : Nat → Prop} {tC tA tP : Nat} {kK kV : Nat → Nat} (hG : Gok G1 ad A) {o : Nat} {p1 : Int32} {p2 : Int32} {p3 : Int32} {p4 : Int32} (h0 : gcl G1 o = 8) {M : Mem} {r : Int32} {M' : Mem} (hf : f_X8_give o p1 p2 p3 p4 M = some (r, M')) : Ct l (E1 A tC tA tP kK kV) D K G1 ad A yX8_give (ws_of yX8_give cX8_give 8 (some .int)) rm_X8_give .int [.ref (ad o), .int p1, .int p2, .int p3, .int p4] M r M' := by
  have hst : Est A (E1 A tC tA tP kK kV) := est1
  refine Ct.ofW (by decide) (Nat.le_of_ble_eq_true rfl) ?_
  intro p e s m args below meth c Q H locs ls S hK hE hP hS hl hret
  have hx := S.1
  have hb := S.2.1
  have hown := S.2.2.2.1
  have ht := S.2.2.2.2
  have hl : lv_has ls 8 [(0, .ref (ad o)), (1, .int p1), (2, .int p2), (3, .int p3), (4, .int p4)] := hl
  unfold f_X8_give at hf
  refine lv_iload_n hx hb dX8_give_0 rfl (lv_at hl 1 rfl) ?_
  refine r_if_lt (tgt := 12) S dX8_give_1 (by decide) hf (fun hf => ?_) (fun hf => ?_)
  · refine lv_iconst (v := 0) hx hb dX8_give_12 (by decide) ?_
    exact hret _ _ _ _ _ _ dX8_give_13 hP hS rfl hf
  · refine lv_iload_n hx hb dX8_give_4 rfl (lv_at hl 1 rfl) ?_
    refine lv_aload_n hx hb dX8_give_5 rfl (lv_at hl 0 rfl) ?_
    refine gf_X8_30 S hK hP h0 dX8_give_6 hf (fun x1 hf => ?_)
    refine r_icmp_lt (tgt := 14) S dX8_give_9 (by decide) hf (fun hf => ?_) (fun hf => ?_)
    · refine lv_iconst (v := 0) hx hb dX8_give_14 (by decide) ?_
      refine lv_istore (lv' := [(5, .int 0), (0, .ref (ad o)), (1, .int p1), (2, .int p2), (3, .int p3), (4, .int p4)]) hx hb dX8_give_15 hl (by decide) rfl (fun ls hl => ?_)
      refine lv_iconst (v := 0) hx hb dX8_give_17 (by decide) ?_
      refine lv_istore (lv' := [(6, .int 0), (5, .int 0), (0, .ref (ad o)), (1, .int p1), (2, .int p2), (3, .int p3), (4, .int p4)]) hx hb dX8_give_18 hl (by decide) rfl (fun ls hl => ?_)
      obtain ⟨F4, hF4, hf⟩ := it2_g hf
      have L4 : ∀ (n : Nat) (v2 : Int32) (v3 : Int32) (M : Mem) (H : Heap) (locs : List Loc) (ls : Array Slot), lv_has ls 8 [(0, .ref (ad o)), (1, .int p1), (2, .int p2), (3, .int p3), (4, .int p4), (5, .int v2), (6, .int v3)] → va_P D classes (gws K G1 ad M) H → va_S A s.heap H locs → it2 F4 n v2 v3 M = some (r, M') → W p l e rm_X8_give s m args below meth c H locs 0 0 Q (F0 m 20 ls []) := by
        intro n
        induction n with
        | zero => intro v2 v3 M H locs ls hl hP hS hf; exact nomatch hf
        | succ n ih4 =>
          intro v2 v3 M H locs ls hl hP hS hf
          obtain ⟨rc4, hrc4, hf⟩ := it2_w hf
          rw [← hrc4] at ih4
          rw [hF4] at hf
          refine lv_iload hx hb dX8_give_20 (lv_at hl 6 rfl) ?_
          refine lv_aload_n hx hb dX8_give_22 rfl (lv_at hl 0 rfl) ?_
          refine gf_X8_21 S hK hP h0 dX8_give_23 hf (fun x5 hx5 hf => ?_)
          refine lv_iload_n hx hb dX8_give_26 rfl (lv_at hl 1 rfl) ?_
          refine r_iald S hK hP hx5 dX8_give_27 hf (fun x6 hf => ?_)
          refine r_icmp_ge (tgt := 201) S dX8_give_28 (by decide) hf (fun hf => ?_) (fun hf => ?_)
          · refine lv_iload hx hb dX8_give_201 (lv_at hl 5 rfl) ?_
            refine r_if_le (tgt := 218) S dX8_give_203 (by decide) hf (fun hf => ?_) (fun hf => ?_)
            · refine lv_iconst (v := 0) hx hb dX8_give_218 (by decide) ?_
              exact hret _ _ _ _ _ _ dX8_give_219 hP hS rfl hf
            · refine lv_aload_n hx hb dX8_give_206 rfl (lv_at hl 0 rfl) ?_
              refine gf_X8_27 S hK hP h0 dX8_give_207 hf (fun x7 hx7 hf => ?_)
              refine lv_iload hx hb dX8_give_210 (lv_at hl 5 rfl) ?_
              refine lv_iconst (v := 1) hx hb dX8_give_212 (by decide) ?_
              refine lv_isub hx hb dX8_give_213 ?_
              refine r_iald S hK hP hx7 dX8_give_214 hf (fun x8 hf => ?_)
              refine lv_goto (tgt := 219) hx hb dX8_give_215 (by decide) ?_
              exact hret _ _ _ _ _ _ dX8_give_219 hP hS rfl hf
          · refine lv_aload_n hx hb dX8_give_31 rfl (lv_at hl 0 rfl) ?_
            refine gf_X8_24 S hK hP h0 dX8_give_32 hf (fun x9 hx9 hf => ?_)
            refine lv_iload_n hx hb dX8_give_35 rfl (lv_at hl 1 rfl) ?_
            refine lv_bipush (v := 96) hx hb dX8_give_36 (by decide) ?_
            refine lv_imul hx hb dX8_give_38 ?_
            refine lv_iload hx hb dX8_give_39 (lv_at hl 6 rfl) ?_
            refine lv_iadd hx hb dX8_give_41 ?_
            refine r_iald S hK hP hx9 dX8_give_42 hf (fun x10 hf => ?_)
            refine lv_istore (lv' := [(7, .int x10), (0, .ref (ad o)), (1, .int p1), (2, .int p2), (3, .int p3), (4, .int p4), (5, .int v2), (6, .int v3)]) hx hb dX8_give_43 hl (by decide) rfl (fun ls hl => ?_)
            refine lv_iload hx hb dX8_give_45 (lv_at hl 0 rfl) ?_
            refine lv_bipush (v := (-3)) hx hb dX8_give_47 (by decide) ?_
            refine r_icmp_lt (tgt := 107) S dX8_give_49 (by decide) hf (fun hf => ?_) (fun hf => ?_)
            · refine lv_iload hx hb dX8_give_107 (lv_at hl 0 rfl) ?_
              refine lv_bipush (v := (-33)) hx hb dX8_give_109 (by decide) ?_
              refine r_icmp_ne (tgt := 151) S dX8_give_111 (by decide) hf (fun hf => ?_) (fun hf => ?_)
              · refine lv_iload hx hb dX8_give_151 (lv_at hl 6 rfl) ?_
                refine lv_iconst (v := 2) hx hb dX8_give_153 (by decide) ?_
                refine r_icmp_ge (tgt := 159) S dX8_give_154 (by decide) hf (fun hf => ?_) (fun hf => ?_)
                · refine lv_aload_n hx hb dX8_give_159 rfl (lv_at hl 1 rfl) ?_
                  refine gf_X8_27 S hK hP h0 dX8_give_160 hf (fun x11 hx11 hf => ?_)
                  refine lv_iload hx hb dX8_give_163 (lv_at hl 6 rfl) ?_
                  refine lv_iconst (v := 2) hx hb dX8_give_165 (by decide) ?_
                  refine lv_isub hx hb dX8_give_166 ?_
                  refine lv_iload hx hb dX8_give_167 (lv_at hl 0 rfl) ?_
                  refine lv_ineg hx hb dX8_give_169 ?_
                  refine lv_aload_n hx hb dX8_give_170 rfl (lv_at hl 1 rfl) ?_
                  refine gf_X8_27 S hK hP h0 dX8_give_171 hf (fun x12 hx12 hf => ?_)
                  refine lv_iload hx hb dX8_give_174 (lv_at hl 6 rfl) ?_
                  refine lv_iconst (v := 2) hx hb dX8_give_176 (by decide) ?_
                  refine lv_isub hx hb dX8_give_177 ?_
                  refine r_iald S hK hP hx12 dX8_give_178 hf (fun x13 hf => ?_)
                  refine lv_aload_n hx hb dX8_give_179 rfl (lv_at hl 1 rfl) ?_
                  refine gf_X8_27 S hK hP h0 dX8_give_180 hf (fun x14 hx14 hf => ?_)
                  refine lv_iload hx hb dX8_give_183 (lv_at hl 6 rfl) ?_
                  refine lv_iconst (v := 1) hx hb dX8_give_185 (by decide) ?_
                  refine lv_isub hx hb dX8_give_186 ?_
                  refine r_iald S hK hP hx14 dX8_give_187 hf (fun x15 hf => ?_)
                  refine r_callS (As := [.int (-x10), .int x13, .int x15]) (rest := [.int (v2 - 2), .ref (ad x11)]) S hK hE hst hP hS (cw_X8_54 ht ⟨Nat.le_of_ble_eq_true rfl, Nat.le_of_ble_eq_true rfl⟩) rfl hl.1 rfl (Nat.le_of_ble_eq_true rfl) dX8_give_188 z2 (fun _ _ h => c_X8_join hG  h) hf (fun x16 M H locs hP hS bx16 hf => ?_)
                  refine r_iast S hK hG hP hS hx11 dX8_give_191 hf (fun M H locs hP hS hf => ?_)
                  refine lv_iinc (v := (v2 + (-1))) (lv' := [(5, .int (v2 + (-1))), (7, .int x10), (0, .ref (ad o)), (1, .int p1), (2, .int p2), (3, .int p3), (4, .int p4), (6, .int v3)]) hx hb dX8_give_192 hl (k := 6) rfl rfl (by decide) rfl (fun ls hl => ?_)
                  refine lv_iinc (v := (v3 + 1)) (lv' := [(6, .int (v3 + 1)), (5, .int (v2 + (-1))), (7, .int x10), (0, .ref (ad o)), (1, .int p1), (2, .int p2), (3, .int p3), (4, .int p4)]) hx hb dX8_give_195 hl (k := 7) rfl rfl (by decide) rfl (fun ls hl => ?_)
                  refine lv_goto (tgt := 20) hx hb dX8_give_198 (by decide) ?_
                  exact ih4 (v2 + (-1)) (v3 + 1) M H locs ls (lv_sub hl [3, 4, 5, 6, 7, 1, 0] rfl) hP hS hf
                · refine lv_iconst (v := 0) hx hb dX8_give_157 (by decide) ?_
                  exact hret _ _ _ _ _ _ dX8_give_158 hP hS rfl hf
              · refine lv_iload hx hb dX8_give_114 (lv_at hl 6 rfl) ?_
                refine lv_iconst (v := 1) hx hb dX8_give_116 (by decide) ?_
                refine r_icmp_ge (tgt := 122) S dX8_give_117 (by decide) hf (fun hf => ?_) (fun hf => ?_)
                · refine lv_aload_n hx hb dX8_give_122 rfl (lv_at hl 1 rfl) ?_
                  refine gf_X8_27 S hK hP h0 dX8_give_123 hf (fun x17 hx17 hf => ?_)
                  refine lv_iload hx hb dX8_give_126 (lv_at hl 6 rfl) ?_
                  refine lv_iconst (v := 1) hx hb dX8_give_128 (by decide) ?_
                  refine lv_isub hx hb dX8_give_129 ?_
                  refine lv_aload_n hx hb dX8_give_130 rfl (lv_at hl 1 rfl) ?_
                  refine gf_X8_27 S hK hP h0 dX8_give_131 hf (fun x18 hx18 hf => ?_)
                  refine lv_iload hx hb dX8_give_134 (lv_at hl 6 rfl) ?_
                  refine lv_iconst (v := 1) hx hb dX8_give_136 (by decide) ?_
                  refine lv_isub hx hb dX8_give_137 ?_
                  refine r_iald S hK hP hx18 dX8_give_138 hf (fun x19 hf => ?_)
                  obtain ⟨k21, hk21, hf⟩ := jn_w hf
                  have J21 : ∀ (v20 : Int32) (M : Mem) (H : Heap) (locs : List Loc) (ls : Array Slot), lv_has ls 8 [(0, .ref (ad o)), (1, .int p1), (2, .int p2), (3, .int p3), (4, .int p4), (5, .int v2), (6, .int v3)] → va_P D classes (gws K G1 ad M) H → va_S A s.heap H locs → k21 v20 M = some (r, M') → W p l e rm_X8_give s m args below meth c H locs 0 0 Q (F0 m 147 ls [.int v20, .int (v2 - 1), .ref (ad x17)]) := by
                    intro v20 M H locs ls hl hP hS hf
                    rw [hk21] at hf
                    refine r_iast S hK hG hP hS hx17 dX8_give_147 hf (fun M H locs hP hS hf => ?_)
                    refine lv_goto (tgt := 195) hx hb dX8_give_148 (by decide) ?_
                    refine lv_iinc (v := (v3 + 1)) (lv' := [(6, .int (v3 + 1)), (0, .ref (ad o)), (1, .int p1), (2, .int p2), (3, .int p3), (4, .int p4), (5, .int v2)]) hx hb dX8_give_195 hl (k := 6) rfl rfl (by decide) rfl (fun ls hl => ?_)
                    refine lv_goto (tgt := 20) hx hb dX8_give_198 (by decide) ?_
                    exact ih4 v2 (v3 + 1) M H locs ls (lv_sub hl [1, 2, 3, 4, 5, 6, 0] rfl) hP hS hf
                  refine r_if_ne (tgt := 146) S dX8_give_139 (by decide) hf (fun hf => ?_) (fun hf => ?_)
                  · refine lv_iconst (v := 0) hx hb dX8_give_146 (by decide) ?_
                    exact J21 0 M H locs ls (lv_sub hl [1, 2, 3, 4, 5, 6, 7] rfl) hP hS hf
                  · refine lv_iconst (v := 1) hx hb dX8_give_142 (by decide) ?_
                    refine lv_goto (tgt := 147) hx hb dX8_give_143 (by decide) ?_
                    exact J21 1 M H locs ls (lv_sub hl [1, 2, 3, 4, 5, 6, 7] rfl) hP hS hf
                · refine lv_iconst (v := 0) hx hb dX8_give_120 (by decide) ?_
                  exact hret _ _ _ _ _ _ dX8_give_121 hP hS rfl hf
            · refine lv_iload hx hb dX8_give_52 (lv_at hl 6 rfl) ?_
              refine lv_bipush (v := 96) hx hb dX8_give_54 (by decide) ?_
              refine r_icmp_lt (tgt := 61) S dX8_give_56 (by decide) hf (fun hf => ?_) (fun hf => ?_)
              · refine lv_aload_n hx hb dX8_give_61 rfl (lv_at hl 1 rfl) ?_
                refine gf_X8_27 S hK hP h0 dX8_give_62 hf (fun x22 hx22 hf => ?_)
                refine lv_iload hx hb dX8_give_65 (lv_at hl 6 rfl) ?_
                refine lv_iload hx hb dX8_give_67 (lv_at hl 0 rfl) ?_
                obtain ⟨k24, hk24, hf⟩ := jn_w hf
                have J24 : ∀ (v23 : Int32) (M : Mem) (H : Heap) (locs : List Loc) (ls : Array Slot), lv_has ls 8 [(0, .ref (ad o)), (1, .int p1), (2, .int p2), (3, .int p3), (4, .int p4), (5, .int v2), (6, .int v3)] → va_P D classes (gws K G1 ad M) H → va_S A s.heap H locs → k24 v23 M = some (r, M') → W p l e rm_X8_give s m args below meth c H locs 0 0 Q (F0 m 100 ls [.int v23, .int v2, .ref (ad x22)]) := by
                  intro v23 M H locs ls hl hP hS hf
                  rw [hk24] at hf
                  refine r_iast S hK hG hP hS hx22 dX8_give_100 hf (fun M H locs hP hS hf => ?_)
                  refine lv_iinc (v := (v2 + 1)) (lv' := [(5, .int (v2 + 1)), (0, .ref (ad o)), (1, .int p1), (2, .int p2), (3, .int p3), (4, .int p4), (6, .int v3)]) hx hb dX8_give_101 hl (k := 5) rfl rfl (by decide) rfl (fun ls hl => ?_)
                  refine lv_goto (tgt := 195) hx hb dX8_give_104 (by decide) ?_
                  refine lv_iinc (v := (v3 + 1)) (lv' := [(6, .int (v3 + 1)), (5, .int (v2 + 1)), (0, .ref (ad o)), (1, .int p1), (2, .int p2), (3, .int p3), (4, .int p4)]) hx hb dX8_give_195 hl (k := 6) rfl rfl (by decide) rfl (fun ls hl => ?_)
                  refine lv_goto (tgt := 20) hx hb dX8_give_198 (by decide) ?_
                  exact ih4 (v2 + 1) (v3 + 1) M H locs ls (lv_sub hl [2, 3, 4, 5, 6, 1, 0] rfl) hP hS hf
                refine r_if_lt (tgt := 77) S dX8_give_69 (by decide) hf (fun hf => ?_) (fun hf => ?_)
                · refine lv_iload hx hb dX8_give_77 (lv_at hl 0 rfl) ?_
                  refine lv_iconst (v := (-1)) hx hb dX8_give_79 (by decide) ?_
                  refine r_icmp_ne (tgt := 87) S dX8_give_80 (by decide) hf (fun hf => ?_) (fun hf => ?_)
                  · refine lv_iload hx hb dX8_give_87 (lv_at hl 0 rfl) ?_
                    refine lv_bipush (v := (-2)) hx hb dX8_give_89 (by decide) ?_
                    refine r_icmp_ne (tgt := 98) S dX8_give_91 (by decide) hf (fun hf => ?_) (fun hf => ?_)
                    · refine lv_iload hx hb dX8_give_98 (lv_at hl 5 rfl) ?_
                      exact J24 p4 M H locs ls (lv_sub hl [1, 2, 3, 4, 5, 6, 7] rfl) hP hS hf
                    · refine lv_iload_n hx hb dX8_give_94 rfl (lv_at hl 4 rfl) ?_
                      refine lv_goto (tgt := 100) hx hb dX8_give_95 (by decide) ?_
                      exact J24 p3 M H locs ls (lv_sub hl [1, 2, 3, 4, 5, 6, 7] rfl) hP hS hf
                  · refine lv_iload_n hx hb dX8_give_83 rfl (lv_at hl 3 rfl) ?_
                    refine lv_goto (tgt := 100) hx hb dX8_give_84 (by decide) ?_
                    exact J24 p2 M H locs ls (lv_sub hl [1, 2, 3, 4, 5, 6, 7] rfl) hP hS hf
                · refine lv_iload hx hb dX8_give_72 (lv_at hl 0 rfl) ?_
                  refine lv_goto (tgt := 100) hx hb dX8_give_74 (by decide) ?_
                  exact J24 x10 M H locs ls (lv_sub hl [1, 2, 3, 4, 5, 6, 7] rfl) hP hS hf
              · refine lv_iconst (v := 0) hx hb dX8_give_59 (by decide) ?_
                exact hret _ _ _ _ _ _ dX8_give_60 hP hS rfl hf
      exact L4 _ 0 0 M H locs ls (lv_sub hl [2, 3, 4, 5, 6, 1, 0] rfl) hP hS hf
    · refine lv_iconst (v := 0) hx hb dX8_give_12 (by decide) ?_
      exact hret _ _ _ _ _ _ dX8_give_13 hP hS rfl hf
def f_X9_holdWithin (p0 : Int32) (p1 : Int32) (p2 : Int32) (M : Mem) : Option (Int32 × Mem) :=
  if p0 < p1 then
    some (p1, M)
  else
    if p2 < p0 then
      some (p2, M)
    else
      some (p0, M)
def rm_X9_holdWithin : Room := { frames := 0, cells := 0, slots := 0, locals := 0 }
set_option maxHeartbeats 4000000 in
set_option maxRecDepth 100000 in
theorem c_X9_holdWithin {l : Launch} {D : va_G} {K : Ks} {ad : Nat → Nat} {A : Nat → Prop} {tC tA tP : Nat} {kK kV : Nat → Nat} (hG : Gok G1 ad A) {p0 : Int32} {p1 : Int32} {p2 : Int32}  {M : Mem} {r : Int32} {M' : Mem} (hf : f_X9_holdWithin p0 p1 p2 M = some (r, M')) : Ct l (E1 A tC tA tP kK kV) D K G1 ad A yX9_holdWithin (ws_of yX9_holdWithin cX9_holdWithin 3 (some .int)) rm_X9_holdWithin .int [.int p0, .int p1, .int p2] M r M' := by
  have hst : Est A (E1 A tC tA tP kK kV) := est1
  refine Ct.ofW (by decide) (Nat.le_of_ble_eq_true rfl) ?_
  intro p e s m args below meth c Q H locs ls S hK hE hP hS hl hret
  have hx := S.1
  have hb := S.2.1
  have hown := S.2.2.2.1
  have ht := S.2.2.2.2
  have hl : lv_has ls 3 [(0, .int p0), (1, .int p1), (2, .int p2)] := hl
  unfold f_X9_holdWithin at hf
  refine lv_iload_n hx hb dX9_holdWithin_0 rfl (lv_at hl 0 rfl) ?_
  refine lv_iload_n hx hb dX9_holdWithin_1 rfl (lv_at hl 1 rfl) ?_
  refine r_icmp_ge (tgt := 9) S dX9_holdWithin_2 (by decide) hf (fun hf => ?_) (fun hf => ?_)
  · refine lv_iload_n hx hb dX9_holdWithin_9 rfl (lv_at hl 0 rfl) ?_
    refine lv_iload_n hx hb dX9_holdWithin_10 rfl (lv_at hl 2 rfl) ?_
    refine r_icmp_le (tgt := 18) S dX9_holdWithin_11 (by decide) hf (fun hf => ?_) (fun hf => ?_)
    · refine lv_iload_n hx hb dX9_holdWithin_18 rfl (lv_at hl 0 rfl) ?_
      exact hret _ _ _ _ _ _ dX9_holdWithin_19 hP hS rfl hf
    · refine lv_iload_n hx hb dX9_holdWithin_14 rfl (lv_at hl 2 rfl) ?_
      refine lv_goto (tgt := 19) hx hb dX9_holdWithin_15 (by decide) ?_
      exact hret _ _ _ _ _ _ dX9_holdWithin_19 hP hS rfl hf
  · refine lv_iload_n hx hb dX9_holdWithin_5 rfl (lv_at hl 1 rfl) ?_
    refine lv_goto (tgt := 19) hx hb dX9_holdWithin_6 (by decide) ?_
    exact hret _ _ _ _ _ _ dX9_holdWithin_19 hP hS rfl hf
theorem cw_X6_85 {R : Room} {s : State} {args : Array Value} (ht : ∀ w ∈ Tw, w.before args s = true) (hR : rm_X8_latest.frames + 1 ≤ R.frames ∧ 8 + (4 + 11) + rm_X8_latest.locals ≤ R.locals) : CallW R s args RX6 RX8 85 yX8_latest cX8_latest 4 (some .int) (ws_of yX8_latest cX8_latest 4 (some .int)) rm_X8_latest 0 0 2 := cw_V 2 ht k_460 k_461 k_462 k_66 k_463 (by decide +kernel) rfl rfl hR
theorem cw_X6_90 {R : Room} {s : State} {args : Array Value} (ht : ∀ w ∈ Tw, w.before args s = true) (hR : rm_X8_give.frames + 1 ≤ R.frames ∧ 8 + (8 + 11) + rm_X8_give.locals ≤ R.locals) : CallW R s args RX6 RX8 90 yX8_give cX8_give 8 (some .int) (ws_of yX8_give cX8_give 8 (some .int)) rm_X8_give 0 0 4 := cw_V 4 ht k_466 k_467 k_468 k_66 k_469 (by decide +kernel) rfl rfl hR
theorem cw_X6_94 {R : Room} {s : State} {args : Array Value} (ht : ∀ w ∈ Tw, w.before args s = true) {A : Nat → Prop} {tC tA tP : Nat} {kK kV : Nat → Nat} (hE : E1 A tC tA tP kK kV s) (hR : rm_X9_holdWithin.frames + 1 ≤ R.frames ∧ 8 + (3 + 11) + rm_X9_holdWithin.locals ≤ R.locals) : va_CN R s args RX6 94 yX9_holdWithin "TwinTables" cX9_holdWithin 3 (some .int) (ws_of yX9_holdWithin cX9_holdWithin 3 (some .int)) rm_X9_holdWithin 0 0 3 ∧ (Cond.static yX9_holdWithin).before args s = true ∧ True := cw_SN 3 ht hE.2.2.2.2.1 k_474 k_63 k_475 (by decide +kernel) rfl rfl hR
def f_X6_spreadFor (o : Nat) (p1 : Int32) (p2 : Int32) (M : Mem) : Option (Int32 × Mem) :=
  vv (grf G1 o 1) fun x1 =>
  bd (f_X8_latest x1 1 0 M) fun x2 M =>
  if x2 = (-1000000005) then
    if 0 < p1 then
      dv p1 <|
      some ((10000 / p1), M)
    else
      some (0, M)
  else
    vv (grf G1 o 1) fun x3 =>
    bd (f_X8_give x3 x2 p1 p2 0 M) fun x4 M =>
    bd (f_X9_holdWithin x4 0 9999 M) fun x5 M =>
    some (x5, M)
def rm_X6_spreadFor : Room := { frames := 2, cells := 0, slots := 0, locals := 49 }
set_option maxHeartbeats 4000000 in
set_option maxRecDepth 100000 in
theorem c_X6_spreadFor {l : Launch} {D : va_G} {K : Ks} {ad : Nat → Nat} {A : Nat → Prop} {tC tA tP : Nat} {kK kV : Nat → Nat} (hG : Gok G1 ad A) {o : Nat} {p1 : Int32} {p2 : Int32} (h0 : gcl G1 o = 6) {M : Mem} {r : Int32} {M' : Mem} (hf : f_X6_spreadFor o p1 p2 M = some (r, M')) : Ct l (E1 A tC tA tP kK kV) D K G1 ad A yX6_spreadFor (ws_of yX6_spreadFor cX6_spreadFor 4 (some .int)) rm_X6_spreadFor .int [.ref (ad o), .int p1, .int p2] M r M' := by
  have hst : Est A (E1 A tC tA tP kK kV) := est1
  refine Ct.ofW (by decide) (Nat.le_of_ble_eq_true rfl) ?_
  intro p e s m args below meth c Q H locs ls S hK hE hP hS hl hret
  have hx := S.1
  have hb := S.2.1
  have hown := S.2.2.2.1
  have ht := S.2.2.2.2
  have hl : lv_has ls 4 [(0, .ref (ad o)), (1, .int p1), (2, .int p2)] := hl
  unfold f_X6_spreadFor at hf
  refine lv_aload_n hx hb dX6_spreadFor_0 rfl (lv_at hl 0 rfl) ?_
  refine gf_X6_21 S hK hP h0 dX6_spreadFor_1 hf (fun x1 hx1 hf => ?_)
  refine lv_iconst (v := 1) hx hb dX6_spreadFor_4 (by decide) ?_
  refine lv_iconst (v := 0) hx hb dX6_spreadFor_5 (by decide) ?_
  refine r_callV (As := [.int 1, .int 0]) (rest := []) S hK hE hst hP hS hx1 (by decide) rfl (cw_X6_85 ht ⟨Nat.le_of_ble_eq_true rfl, Nat.le_of_ble_eq_true rfl⟩) rfl hl.1 rfl (Nat.le_of_ble_eq_true rfl) dX6_spreadFor_6 z2 (fun _ _ h => c_X8_latest hG  hx1 h) hf (fun x2 M H locs hP hS bx2 hf => ?_)
  refine lv_istore_n (lv' := [(3, .int x2), (0, .ref (ad o)), (1, .int p1), (2, .int p2)]) hx hb dX6_spreadFor_9 rfl hl (by decide) rfl (fun ls hl => ?_)
  refine lv_iload_n hx hb dX6_spreadFor_10 rfl (lv_at hl 0 rfl) ?_
  refine lv_ldc (v := (-1000000005)) hx hb hown (ht _ k_465) dX6_spreadFor_11 ?_
  refine r_icmp_eq (tgt := 35) S dX6_spreadFor_13 (by decide) hf (fun hf => ?_) (fun hf => ?_)
  · refine lv_iload_n hx hb dX6_spreadFor_35 rfl (lv_at hl 2 rfl) ?_
    refine r_if_le (tgt := 47) S dX6_spreadFor_36 (by decide) hf (fun hf => ?_) (fun hf => ?_)
    · refine lv_iconst (v := 0) hx hb dX6_spreadFor_47 (by decide) ?_
      exact hret _ _ _ _ _ _ dX6_spreadFor_48 hP hS rfl hf
    · refine lv_sipush (v := 10000) hx hb dX6_spreadFor_39 (by decide) ?_
      refine lv_iload_n hx hb dX6_spreadFor_42 rfl (lv_at hl 2 rfl) ?_
      refine r_idiv S dX6_spreadFor_43 hf (fun hf => ?_)
      refine lv_goto (tgt := 48) hx hb dX6_spreadFor_44 (by decide) ?_
      exact hret _ _ _ _ _ _ dX6_spreadFor_48 hP hS rfl hf
  · refine lv_aload_n hx hb dX6_spreadFor_16 rfl (lv_at hl 1 rfl) ?_
    refine gf_X6_21 S hK hP h0 dX6_spreadFor_17 hf (fun x3 hx3 hf => ?_)
    refine lv_iload_n hx hb dX6_spreadFor_20 rfl (lv_at hl 0 rfl) ?_
    refine lv_iload_n hx hb dX6_spreadFor_21 rfl (lv_at hl 2 rfl) ?_
    refine lv_iload_n hx hb dX6_spreadFor_22 rfl (lv_at hl 3 rfl) ?_
    refine lv_iconst (v := 0) hx hb dX6_spreadFor_23 (by decide) ?_
    refine r_callV (As := [.int x2, .int p1, .int p2, .int 0]) (rest := []) S hK hE hst hP hS hx3 (by decide) rfl (cw_X6_90 ht ⟨Nat.le_of_ble_eq_true rfl, Nat.le_of_ble_eq_true rfl⟩) rfl hl.1 rfl (Nat.le_of_ble_eq_true rfl) dX6_spreadFor_24 z2 (fun _ _ h => c_X8_give hG  hx3 h) hf (fun x4 M H locs hP hS bx4 hf => ?_)
    refine lv_iconst (v := 0) hx hb dX6_spreadFor_27 (by decide) ?_
    refine lv_sipush (v := 9999) hx hb dX6_spreadFor_28 (by decide) ?_
    refine r_callSN (As := [.int x4, .int 0, .int 9999]) (rest := []) S hK hE hst hP hS (cw_X6_94 ht hE ⟨Nat.le_of_ble_eq_true rfl, Nat.le_of_ble_eq_true rfl⟩) rfl hl.1 rfl (Nat.le_of_ble_eq_true rfl) dX6_spreadFor_31 z2 (fun _ _ h => c_X9_holdWithin hG  h) hf (fun x5 M H locs hP hS bx5 hf => ?_)
    exact hret _ _ _ _ _ _ dX6_spreadFor_34 hP hS rfl hf
theorem cw_X6_101 {R : Room} {s : State} {args : Array Value} (ht : ∀ w ∈ Tw, w.before args s = true) (hR : rm_X0_yearOf.frames + 1 ≤ R.frames ∧ 8 + (2 + 11) + rm_X0_yearOf.locals ≤ R.locals) : CallW R s args RX6 RX0 101 yX0_yearOf cX0_yearOf 2 (some .int) (ws_of yX0_yearOf cX0_yearOf 2 (some .int)) rm_X0_yearOf 0 0 1 := cw_V 1 ht k_452 k_453 k_454 k_65 k_455 (by decide +kernel) rfl rfl hR
theorem cw_X6_105 {R : Room} {s : State} {args : Array Value} (ht : ∀ w ∈ Tw, w.before args s = true) (hR : rm_X6_spreadFor.frames + 1 ≤ R.frames ∧ 8 + (4 + 11) + rm_X6_spreadFor.locals ≤ R.locals) : CallW R s args RX6 RX6 105 yX6_spreadFor cX6_spreadFor 4 (some .int) (ws_of yX6_spreadFor cX6_spreadFor 4 (some .int)) rm_X6_spreadFor 0 0 2 := cw_V 2 ht k_456 k_457 k_458 k_64 k_459 (by decide +kernel) rfl rfl hR
section
variable {p : Program} {l : Launch} {e : Env} {R : Room} {s : State} {m : MethodId} {args : Array Value} {below : List Frame} {meth : Method} {c : Code} {H : Heap} {locs : List Loc} {cells slots : Nat} {Q : State → Prop} {cc : ByteArray} {pc : Nat} {ls : Array Slot} {rest : List Value} {nL : Nat} {D : va_G} {K : Ks} {ad : Nat → Nat} {A : Nat → Prop} {M : Mem} {β : Type} {z : β}
theorem gf_X6_98 (S : CallFix p m c cc nL s args Tw RX6) (hK : va_K D classes (gty K) s) (hP : va_P D classes (gws K G1 ad M) H) {a : Nat} {kk : Nat → Option β} (ha : gcl G1 a = 0) (hdg : decode cc pc = .ok (.getfield 98, 3)) (hf : vv (grf G1 a 6) kk = some z) (w : ∀ b, gcl G1 b = 20 ∧ gsz G1 b = 40 → kk b = some z → W p l e R s m args below meth c H locs cells slots Q (F0 m (pc + 3) ls (.ref (ad b) :: rest))) : W p l e R s m args below meth c H locs cells slots Q (F0 m pc ls (.ref (ad a) :: rest)) := r_getr S hK hP (T := TX0) inX0 rfl (by decide) (by decide) ha (sf_X0_6 ha).1 k_118 hdg hf (fun b e => w b (by rw [e]; exact (sf_X0_6 ha).2))
end
def f_X6_spreadOf (o : Nat) (p1 : Int32) (M : Mem) : Option (Int32 × Mem) :=
  vv (grf G1 o 0) fun x1 =>
  vv (grf G1 x1 6) fun x2 =>
  ld M x2 p1 40 fun x3 =>
  vv (grf G1 o 0) fun x4 =>
  bd (f_X0_yearOf x4 p1 M) fun x5 M =>
  bd (f_X6_spreadFor o x3 x5 M) fun x6 M =>
  some (x6, M)
def rm_X6_spreadOf : Room := { frames := 3, cells := 0, slots := 0, locals := 72 }
set_option maxHeartbeats 4000000 in
set_option maxRecDepth 100000 in
theorem c_X6_spreadOf {l : Launch} {D : va_G} {K : Ks} {ad : Nat → Nat} {A : Nat → Prop} {tC tA tP : Nat} {kK kV : Nat → Nat} (hG : Gok G1 ad A) {o : Nat} {p1 : Int32} (h0 : gcl G1 o = 6) {M : Mem} {r : Int32} {M' : Mem} (hf : f_X6_spreadOf o p1 M = some (r, M')) : Ct l (E1 A tC tA tP kK kV) D K G1 ad A yX6_spreadOf (ws_of yX6_spreadOf cX6_spreadOf 2 (some .int)) rm_X6_spreadOf .int [.ref (ad o), .int p1] M r M' := by
  have hst : Est A (E1 A tC tA tP kK kV) := est1
  refine Ct.ofW (by decide) (Nat.le_of_ble_eq_true rfl) ?_
  intro p e s m args below meth c Q H locs ls S hK hE hP hS hl hret
  have hx := S.1
  have hb := S.2.1
  have hown := S.2.2.2.1
  have ht := S.2.2.2.2
  have hl : lv_has ls 2 [(0, .ref (ad o)), (1, .int p1)] := hl
  unfold f_X6_spreadOf at hf
  refine lv_aload_n hx hb dX6_spreadOf_0 rfl (lv_at hl 0 rfl) ?_
  refine lv_aload_n hx hb dX6_spreadOf_1 rfl (lv_at hl 0 rfl) ?_
  refine gf_X6_12 S hK hP h0 dX6_spreadOf_2 hf (fun x1 hx1 hf => ?_)
  refine gf_X6_98 S hK hP hx1 dX6_spreadOf_5 hf (fun x2 hx2 hf => ?_)
  refine lv_iload_n hx hb dX6_spreadOf_8 rfl (lv_at hl 1 rfl) ?_
  refine r_iald S hK hP hx2 dX6_spreadOf_9 hf (fun x3 hf => ?_)
  refine lv_aload_n hx hb dX6_spreadOf_10 rfl (lv_at hl 0 rfl) ?_
  refine gf_X6_12 S hK hP h0 dX6_spreadOf_11 hf (fun x4 hx4 hf => ?_)
  refine lv_iload_n hx hb dX6_spreadOf_14 rfl (lv_at hl 1 rfl) ?_
  refine r_callV (As := [.int p1]) (rest := [.int x3, .ref (ad o)]) S hK hE hst hP hS hx4 (by decide) rfl (cw_X6_101 ht ⟨Nat.le_of_ble_eq_true rfl, Nat.le_of_ble_eq_true rfl⟩) rfl hl.1 rfl (Nat.le_of_ble_eq_true rfl) dX6_spreadOf_15 z2 (fun _ _ h => c_X0_yearOf hG  hx4 h) hf (fun x5 M H locs hP hS bx5 hf => ?_)
  refine r_callV (As := [.int x3, .int x5]) (rest := []) S hK hE hst hP hS h0 (by decide) rfl (cw_X6_105 ht ⟨Nat.le_of_ble_eq_true rfl, Nat.le_of_ble_eq_true rfl⟩) rfl hl.1 rfl (Nat.le_of_ble_eq_true rfl) dX6_spreadOf_18 z2 (fun _ _ h => c_X6_spreadFor hG  h0 h) hf (fun x6 M H locs hP hS bx6 hf => ?_)
  exact hret _ _ _ _ _ _ dX6_spreadOf_21 hP hS rfl hf
section
variable {p : Program} {l : Launch} {e : Env} {R : Room} {s : State} {m : MethodId} {args : Array Value} {below : List Frame} {meth : Method} {c : Code} {H : Heap} {locs : List Loc} {cells slots : Nat} {Q : State → Prop} {cc : ByteArray} {pc : Nat} {ls : Array Slot} {rest : List Value} {nL : Nat} {D : va_G} {K : Ks} {ad : Nat → Nat} {A : Nat → Prop} {M : Mem} {β : Type} {z : β}
theorem gf_X6_108 (S : CallFix p m c cc nL s args Tw RX6) (hK : va_K D classes (gty K) s) (hP : va_P D classes (gws K G1 ad M) H) {a : Nat} {kk : Nat → Option β} (ha : gcl G1 a = 0) (hdg : decode cc pc = .ok (.getfield 108, 3)) (hf : vv (grf G1 a 3) kk = some z) (w : ∀ b, gcl G1 b = 20 ∧ gsz G1 b = 40 → kk b = some z → W p l e R s m args below meth c H locs cells slots Q (F0 m (pc + 3) ls (.ref (ad b) :: rest))) : W p l e R s m args below meth c H locs cells slots Q (F0 m pc ls (.ref (ad a) :: rest)) := r_getr S hK hP (T := TX0) inX0 rfl (by decide) (by decide) ha (sf_X0_3 ha).1 k_110 hdg hf (fun b e => w b (by rw [e]; exact (sf_X0_3 ha).2))
end
def f_X6_isWorked (o : Nat) (p1 : Int32) (M : Mem) : Option (Int32 × Mem) :=
  vv (grf G1 o 1) fun x1 =>
  vv (grf G1 o 0) fun x2 =>
  vv (grf G1 x2 3) fun x3 =>
  ld M x3 p1 40 fun x4 =>
  bd (f_X8_latest x1 0 x4 M) fun x5 M =>
  if x5 = (-1000000005) then
    some (0, M)
  else
    some (1, M)
def rm_X6_isWorked : Room := { frames := 1, cells := 0, slots := 0, locals := 23 }
set_option maxHeartbeats 4000000 in
set_option maxRecDepth 100000 in
theorem c_X6_isWorked {l : Launch} {D : va_G} {K : Ks} {ad : Nat → Nat} {A : Nat → Prop} {tC tA tP : Nat} {kK kV : Nat → Nat} (hG : Gok G1 ad A) {o : Nat} {p1 : Int32} (h0 : gcl G1 o = 6) {M : Mem} {r : Int32} {M' : Mem} (hf : f_X6_isWorked o p1 M = some (r, M')) : Ct l (E1 A tC tA tP kK kV) D K G1 ad A yX6_isWorked (ws_of yX6_isWorked cX6_isWorked 2 (some .boolean)) rm_X6_isWorked .boolean [.ref (ad o), .int p1] M r M' := by
  have hst : Est A (E1 A tC tA tP kK kV) := est1
  refine Ct.ofW (by decide) (Nat.le_of_ble_eq_true rfl) ?_
  intro p e s m args below meth c Q H locs ls S hK hE hP hS hl hret
  have hx := S.1
  have hb := S.2.1
  have hown := S.2.2.2.1
  have ht := S.2.2.2.2
  have hl : lv_has ls 2 [(0, .ref (ad o)), (1, .int p1)] := hl
  unfold f_X6_isWorked at hf
  refine lv_aload_n hx hb dX6_isWorked_0 rfl (lv_at hl 0 rfl) ?_
  refine gf_X6_21 S hK hP h0 dX6_isWorked_1 hf (fun x1 hx1 hf => ?_)
  refine lv_iconst (v := 0) hx hb dX6_isWorked_4 (by decide) ?_
  refine lv_aload_n hx hb dX6_isWorked_5 rfl (lv_at hl 0 rfl) ?_
  refine gf_X6_12 S hK hP h0 dX6_isWorked_6 hf (fun x2 hx2 hf => ?_)
  refine gf_X6_108 S hK hP hx2 dX6_isWorked_9 hf (fun x3 hx3 hf => ?_)
  refine lv_iload_n hx hb dX6_isWorked_12 rfl (lv_at hl 1 rfl) ?_
  refine r_iald S hK hP hx3 dX6_isWorked_13 hf (fun x4 hf => ?_)
  refine r_callV (As := [.int 0, .int x4]) (rest := []) S hK hE hst hP hS hx1 (by decide) rfl (cw_X6_85 ht ⟨Nat.le_of_ble_eq_true rfl, Nat.le_of_ble_eq_true rfl⟩) rfl hl.1 rfl (Nat.le_of_ble_eq_true rfl) dX6_isWorked_14 z2 (fun _ _ h => c_X8_latest hG  hx1 h) hf (fun x5 M H locs hP hS bx5 hf => ?_)
  refine lv_ldc (v := (-1000000005)) hx hb hown (ht _ k_465) dX6_isWorked_17 ?_
  refine r_icmp_eq (tgt := 26) S dX6_isWorked_19 (by decide) hf (fun hf => ?_) (fun hf => ?_)
  · refine lv_iconst (v := 0) hx hb dX6_isWorked_26 (by decide) ?_
    exact hret _ _ _ _ _ _ dX6_isWorked_27 hP hS rfl hf
  · refine lv_iconst (v := 1) hx hb dX6_isWorked_22 (by decide) ?_
    refine lv_goto (tgt := 27) hx hb dX6_isWorked_23 (by decide) ?_
    exact hret _ _ _ _ _ _ dX6_isWorked_27 hP hS rfl hf
theorem cw_X6_114 {R : Room} {s : State} {args : Array Value} (ht : ∀ w ∈ Tw, w.before args s = true) (hR : rm_X0_has.frames + 1 ≤ R.frames ∧ 8 + (2 + 11) + rm_X0_has.locals ≤ R.locals) : CallW R s args RX6 RX0 114 yX0_has cX0_has 2 (some .boolean) (ws_of yX0_has cX0_has 2 (some .boolean)) rm_X0_has 0 0 1 := cw_V 1 ht k_444 k_427 k_428 k_65 k_429 (by decide +kernel) rfl rfl hR
theorem cw_X6_121 {R : Room} {s : State} {args : Array Value} (ht : ∀ w ∈ Tw, w.before args s = true) (hR : rm_X0_aheadOf.frames + 1 ≤ R.frames ∧ 8 + (4 + 11) + rm_X0_aheadOf.locals ≤ R.locals) : CallW R s args RX6 RX0 121 yX0_aheadOf cX0_aheadOf 4 (some .int) (ws_of yX0_aheadOf cX0_aheadOf 4 (some .int)) rm_X0_aheadOf 0 0 1 := cw_V 1 ht k_488 k_489 k_490 k_65 k_491 (by decide +kernel) rfl rfl hR
section
variable {p : Program} {l : Launch} {e : Env} {R : Room} {s : State} {m : MethodId} {args : Array Value} {below : List Frame} {meth : Method} {c : Code} {H : Heap} {locs : List Loc} {cells slots : Nat} {Q : State → Prop} {cc : ByteArray} {pc : Nat} {ls : Array Slot} {rest : List Value} {nL : Nat} {D : va_G} {K : Ks} {ad : Nat → Nat} {A : Nat → Prop} {M : Mem} {β : Type} {z : β}
theorem gf_X6_111 (S : CallFix p m c cc nL s args Tw RX6) (hK : va_K D classes (gty K) s) (hP : va_P D classes (gws K G1 ad M) H) {a : Nat} {kk : Nat → Option β} (ha : gcl G1 a = 0) (hdg : decode cc pc = .ok (.getfield 111, 3)) (hf : vv (grf G1 a 7) kk = some z) (w : ∀ b, gcl G1 b = 20 ∧ gsz G1 b = 40 → kk b = some z → W p l e R s m args below meth c H locs cells slots Q (F0 m (pc + 3) ls (.ref (ad b) :: rest))) : W p l e R s m args below meth c H locs cells slots Q (F0 m pc ls (.ref (ad a) :: rest)) := r_getr S hK hP (T := TX0) inX0 rfl (by decide) (by decide) ha (sf_X0_7 ha).1 k_122 hdg hf (fun b e => w b (by rw [e]; exact (sf_X0_7 ha).2))
end
section
variable {p : Program} {l : Launch} {e : Env} {R : Room} {s : State} {m : MethodId} {args : Array Value} {below : List Frame} {meth : Method} {c : Code} {H : Heap} {locs : List Loc} {cells slots : Nat} {Q : State → Prop} {cc : ByteArray} {pc : Nat} {ls : Array Slot} {rest : List Value} {nL : Nat} {D : va_G} {K : Ks} {ad : Nat → Nat} {A : Nat → Prop} {M : Mem} {β : Type} {z : β}
theorem gf_X6_118 (S : CallFix p m c cc nL s args Tw RX6) (hK : va_K D classes (gty K) s) (hP : va_P D classes (gws K G1 ad M) H) {a : Nat} {kk : Nat → Option β} (ha : gcl G1 a = 0) (hdg : decode cc pc = .ok (.getfield 118, 3)) (hf : vv (grf G1 a 5) kk = some z) (w : ∀ b, gcl G1 b = 20 ∧ gsz G1 b = 40 → kk b = some z → W p l e R s m args below meth c H locs cells slots Q (F0 m (pc + 3) ls (.ref (ad b) :: rest))) : W p l e R s m args below meth c H locs cells slots Q (F0 m pc ls (.ref (ad a) :: rest)) := r_getr S hK hP (T := TX0) inX0 rfl (by decide) (by decide) ha (sf_X0_5 ha).1 k_116 hdg hf (fun b e => w b (by rw [e]; exact (sf_X0_5 ha).2))
end
def f_X6_worked (o : Nat) (p1 : Int32) (M : Mem) : Option (Int32 × Mem) :=
  vv (grf G1 o 1) fun x1 =>
  vv (grf G1 o 0) fun x2 =>
  vv (grf G1 x2 3) fun x3 =>
  ld M x3 p1 40 fun x4 =>
  bd (f_X8_latest x1 0 x4 M) fun x5 M =>
  vv (grf G1 o 0) fun x6 =>
  vv (grf G1 x6 7) fun x7 =>
  ld M x7 p1 40 fun x8 =>
  vv (grf G1 o 0) fun x9 =>
  bd (f_X0_has x9 x8 M) fun x10 M =>
  jn (fun (v11 : Int32) (M : Mem) =>
    vv (grf G1 o 1) fun x13 =>
    vv (grf G1 o 0) fun x14 =>
    vv (grf G1 x14 6) fun x15 =>
    ld M x15 p1 40 fun x16 =>
    vv (grf G1 o 0) fun x17 =>
    bd (f_X0_aheadOf x17 p1 M) fun x18 M =>
    bd (f_X8_give x13 x5 x16 v11 x18 M) fun x19 M =>
    some (x19, M)
  ) fun k12 =>
  if x10 = 0 then
    k12 0 M
  else
    vv (grf G1 o 0) fun x20 =>
    vv (grf G1 x20 5) fun x21 =>
    ld M x21 x8 40 fun x22 =>
    k12 x22 M
def rm_X6_worked : Room := { frames := 2, cells := 0, slots := 0, locals := 49 }
set_option maxHeartbeats 4000000 in
set_option maxRecDepth 100000 in
theorem c_X6_worked {l : Launch} {D : va_G} {K : Ks} {ad : Nat → Nat} {A : Nat → Prop} {tC tA tP : Nat} {kK kV : Nat → Nat} (hG : Gok G1 ad A) {o : Nat} {p1 : Int32} (h0 : gcl G1 o = 6) {M : Mem} {r : Int32} {M' : Mem} (hf : f_X6_worked o p1 M = some (r, M')) : Ct l (E1 A tC tA tP kK kV) D K G1 ad A yX6_worked (ws_of yX6_worked cX6_worked 5 (some .int)) rm_X6_worked .int [.ref (ad o), .int p1] M r M' := by
  have hst : Est A (E1 A tC tA tP kK kV) := est1
  refine Ct.ofW (by decide) (Nat.le_of_ble_eq_true rfl) ?_
  intro p e s m args below meth c Q H locs ls S hK hE hP hS hl hret
  have hx := S.1
  have hb := S.2.1
  have hown := S.2.2.2.1
  have ht := S.2.2.2.2
  have hl : lv_has ls 5 [(0, .ref (ad o)), (1, .int p1)] := hl
  unfold f_X6_worked at hf
  refine lv_aload_n hx hb dX6_worked_0 rfl (lv_at hl 0 rfl) ?_
  refine gf_X6_21 S hK hP h0 dX6_worked_1 hf (fun x1 hx1 hf => ?_)
  refine lv_iconst (v := 0) hx hb dX6_worked_4 (by decide) ?_
  refine lv_aload_n hx hb dX6_worked_5 rfl (lv_at hl 0 rfl) ?_
  refine gf_X6_12 S hK hP h0 dX6_worked_6 hf (fun x2 hx2 hf => ?_)
  refine gf_X6_108 S hK hP hx2 dX6_worked_9 hf (fun x3 hx3 hf => ?_)
  refine lv_iload_n hx hb dX6_worked_12 rfl (lv_at hl 1 rfl) ?_
  refine r_iald S hK hP hx3 dX6_worked_13 hf (fun x4 hf => ?_)
  refine r_callV (As := [.int 0, .int x4]) (rest := []) S hK hE hst hP hS hx1 (by decide) rfl (cw_X6_85 ht ⟨Nat.le_of_ble_eq_true rfl, Nat.le_of_ble_eq_true rfl⟩) rfl hl.1 rfl (Nat.le_of_ble_eq_true rfl) dX6_worked_14 z2 (fun _ _ h => c_X8_latest hG  hx1 h) hf (fun x5 M H locs hP hS bx5 hf => ?_)
  refine lv_istore_n (lv' := [(2, .int x5), (0, .ref (ad o)), (1, .int p1)]) hx hb dX6_worked_17 rfl hl (by decide) rfl (fun ls hl => ?_)
  refine lv_aload_n hx hb dX6_worked_18 rfl (lv_at hl 1 rfl) ?_
  refine gf_X6_12 S hK hP h0 dX6_worked_19 hf (fun x6 hx6 hf => ?_)
  refine gf_X6_111 S hK hP hx6 dX6_worked_22 hf (fun x7 hx7 hf => ?_)
  refine lv_iload_n hx hb dX6_worked_25 rfl (lv_at hl 2 rfl) ?_
  refine r_iald S hK hP hx7 dX6_worked_26 hf (fun x8 hf => ?_)
  refine lv_istore_n (lv' := [(3, .int x8), (2, .int x5), (0, .ref (ad o)), (1, .int p1)]) hx hb dX6_worked_27 rfl hl (by decide) rfl (fun ls hl => ?_)
  refine lv_aload_n hx hb dX6_worked_28 rfl (lv_at hl 2 rfl) ?_
  refine gf_X6_12 S hK hP h0 dX6_worked_29 hf (fun x9 hx9 hf => ?_)
  refine lv_iload_n hx hb dX6_worked_32 rfl (lv_at hl 0 rfl) ?_
  refine r_callV (As := [.int x8]) (rest := []) S hK hE hst hP hS hx9 (by decide) rfl (cw_X6_114 ht ⟨Nat.le_of_ble_eq_true rfl, Nat.le_of_ble_eq_true rfl⟩) rfl hl.1 rfl (Nat.le_of_ble_eq_true rfl) dX6_worked_33 z2 (fun _ _ h => c_X0_has hG  hx9 h) hf (fun x10 M H locs hP hS bx10 hf => ?_)
  obtain ⟨k12, hk12, hf⟩ := jn_w hf
  have J12 : ∀ (v11 : Int32) (M : Mem) (H : Heap) (locs : List Loc) (ls : Array Slot), lv_has ls 5 [(0, .ref (ad o)), (1, .int p1), (2, .int x5)] → va_P D classes (gws K G1 ad M) H → va_S A s.heap H locs → k12 v11 M = some (r, M') → W p l e rm_X6_worked s m args below meth c H locs 0 0 Q (F0 m 52 ls [.int v11]) := by
    intro v11 M H locs ls hl hP hS hf
    rw [hk12] at hf
    refine lv_istore (lv' := [(4, .int v11), (0, .ref (ad o)), (1, .int p1), (2, .int x5)]) hx hb dX6_worked_52 hl (by decide) rfl (fun ls hl => ?_)
    refine lv_aload_n hx hb dX6_worked_54 rfl (lv_at hl 1 rfl) ?_
    refine gf_X6_21 S hK hP h0 dX6_worked_55 hf (fun x13 hx13 hf => ?_)
    refine lv_iload_n hx hb dX6_worked_58 rfl (lv_at hl 3 rfl) ?_
    refine lv_aload_n hx hb dX6_worked_59 rfl (lv_at hl 1 rfl) ?_
    refine gf_X6_12 S hK hP h0 dX6_worked_60 hf (fun x14 hx14 hf => ?_)
    refine gf_X6_98 S hK hP hx14 dX6_worked_63 hf (fun x15 hx15 hf => ?_)
    refine lv_iload_n hx hb dX6_worked_66 rfl (lv_at hl 2 rfl) ?_
    refine r_iald S hK hP hx15 dX6_worked_67 hf (fun x16 hf => ?_)
    refine lv_iload hx hb dX6_worked_68 (lv_at hl 0 rfl) ?_
    refine lv_aload_n hx hb dX6_worked_70 rfl (lv_at hl 1 rfl) ?_
    refine gf_X6_12 S hK hP h0 dX6_worked_71 hf (fun x17 hx17 hf => ?_)
    refine lv_iload_n hx hb dX6_worked_74 rfl (lv_at hl 2 rfl) ?_
    refine r_callV (As := [.int p1]) (rest := [.int v11, .int x16, .int x5, .ref (ad x13)]) S hK hE hst hP hS hx17 (by decide) rfl (cw_X6_121 ht ⟨Nat.le_of_ble_eq_true rfl, Nat.le_of_ble_eq_true rfl⟩) rfl hl.1 rfl (Nat.le_of_ble_eq_true rfl) dX6_worked_75 z2 (fun _ _ h => c_X0_aheadOf hG  hx17 h) hf (fun x18 M H locs hP hS bx18 hf => ?_)
    refine r_callV (As := [.int x5, .int x16, .int v11, .int x18]) (rest := []) S hK hE hst hP hS hx13 (by decide) rfl (cw_X6_90 ht ⟨Nat.le_of_ble_eq_true rfl, Nat.le_of_ble_eq_true rfl⟩) rfl hl.1 rfl (Nat.le_of_ble_eq_true rfl) dX6_worked_78 z2 (fun _ _ h => c_X8_give hG  hx13 h) hf (fun x19 M H locs hP hS bx19 hf => ?_)
    exact hret _ _ _ _ _ _ dX6_worked_81 hP hS rfl hf
  refine r_if_eq (tgt := 51) S dX6_worked_36 (by decide) hf (fun hf => ?_) (fun hf => ?_)
  · refine lv_iconst (v := 0) hx hb dX6_worked_51 (by decide) ?_
    exact J12 0 M H locs ls (lv_sub hl [2, 3, 1] rfl) hP hS hf
  · refine lv_aload_n hx hb dX6_worked_39 rfl (lv_at hl 2 rfl) ?_
    refine gf_X6_12 S hK hP h0 dX6_worked_40 hf (fun x20 hx20 hf => ?_)
    refine gf_X6_118 S hK hP hx20 dX6_worked_43 hf (fun x21 hx21 hf => ?_)
    refine lv_iload_n hx hb dX6_worked_46 rfl (lv_at hl 0 rfl) ?_
    refine r_iald S hK hP hx21 dX6_worked_47 hf (fun x22 hf => ?_)
    refine lv_goto (tgt := 52) hx hb dX6_worked_48 (by decide) ?_
    exact J12 x22 M H locs ls (lv_sub hl [2, 3, 1] rfl) hP hS hf
theorem cw_X6_124 {R : Room} {s : State} {args : Array Value} (ht : ∀ w ∈ Tw, w.before args s = true) (hR : rm_X6_isWorked.frames + 1 ≤ R.frames ∧ 8 + (2 + 11) + rm_X6_isWorked.locals ≤ R.locals) : CallW R s args RX6 RX6 124 yX6_isWorked cX6_isWorked 2 (some .boolean) (ws_of yX6_isWorked cX6_isWorked 2 (some .boolean)) rm_X6_isWorked 0 0 1 := cw_V 1 ht k_480 k_481 k_482 k_64 k_483 (by decide +kernel) rfl rfl hR
theorem cw_X6_127 {R : Room} {s : State} {args : Array Value} (ht : ∀ w ∈ Tw, w.before args s = true) (hR : rm_X6_worked.frames + 1 ≤ R.frames ∧ 8 + (5 + 11) + rm_X6_worked.locals ≤ R.locals) : CallW R s args RX6 RX6 127 yX6_worked cX6_worked 5 (some .int) (ws_of yX6_worked cX6_worked 5 (some .int)) rm_X6_worked 0 0 1 := cw_V 1 ht k_484 k_485 k_486 k_64 k_487 (by decide +kernel) rfl rfl hR
def f_X6_isWorkedWithin (o : Nat) (p1 : Int32) (p2 : Int32) (M : Mem) : Option (Int32 × Mem) :=
  bd (f_X6_isWorked o p1 M) fun x1 M =>
  if x1 = 0 then
    some (0, M)
  else
    bd (f_X6_worked o p1 M) fun x2 M =>
    vv (grf G1 o 0) fun x3 =>
    vv (grf G1 x3 5) fun x4 =>
    ld M x4 p1 40 fun x5 =>
    vv ((Int32.toInt64 x2) - (Int32.toInt64 x5)) fun x6 =>
    if (lg_cmp x6 (Int32.toInt64 (-p2))) < 0 then
      some (0, M)
    else
      if 0 < (lg_cmp x6 (Int32.toInt64 p2)) then
        some (0, M)
      else
        some (1, M)
def rm_X6_isWorkedWithin : Room := { frames := 3, cells := 0, slots := 0, locals := 73 }
set_option maxHeartbeats 4000000 in
set_option maxRecDepth 100000 in
theorem c_X6_isWorkedWithin {l : Launch} {D : va_G} {K : Ks} {ad : Nat → Nat} {A : Nat → Prop} {tC tA tP : Nat} {kK kV : Nat → Nat} (hG : Gok G1 ad A) {o : Nat} {p1 : Int32} {p2 : Int32} (h0 : gcl G1 o = 6) {M : Mem} {r : Int32} {M' : Mem} (hf : f_X6_isWorkedWithin o p1 p2 M = some (r, M')) : Ct l (E1 A tC tA tP kK kV) D K G1 ad A yX6_isWorkedWithin (ws_of yX6_isWorkedWithin cX6_isWorkedWithin 5 (some .boolean)) rm_X6_isWorkedWithin .boolean [.ref (ad o), .int p1, .int p2] M r M' := by
  have hst : Est A (E1 A tC tA tP kK kV) := est1
  refine Ct.ofW (by decide) (Nat.le_of_ble_eq_true rfl) ?_
  intro p e s m args below meth c Q H locs ls S hK hE hP hS hl hret
  have hx := S.1
  have hb := S.2.1
  have hown := S.2.2.2.1
  have ht := S.2.2.2.2
  have hl : lv_has ls 5 [(0, .ref (ad o)), (1, .int p1), (2, .int p2)] := hl
  unfold f_X6_isWorkedWithin at hf
  refine lv_aload_n hx hb dX6_isWorkedWithin_0 rfl (lv_at hl 0 rfl) ?_
  refine lv_iload_n hx hb dX6_isWorkedWithin_1 rfl (lv_at hl 1 rfl) ?_
  refine r_callV (As := [.int p1]) (rest := []) S hK hE hst hP hS h0 (by decide) rfl (cw_X6_124 ht ⟨Nat.le_of_ble_eq_true rfl, Nat.le_of_ble_eq_true rfl⟩) rfl hl.1 rfl (Nat.le_of_ble_eq_true rfl) dX6_isWorkedWithin_2 z2 (fun _ _ h => c_X6_isWorked hG  h0 h) hf (fun x1 M H locs hP hS bx1 hf => ?_)
  refine r_if_ne (tgt := 10) S dX6_isWorkedWithin_5 (by decide) hf (fun hf => ?_) (fun hf => ?_)
  · refine lv_aload_n hx hb dX6_isWorkedWithin_10 rfl (lv_at hl 0 rfl) ?_
    refine lv_iload_n hx hb dX6_isWorkedWithin_11 rfl (lv_at hl 1 rfl) ?_
    refine r_callV (As := [.int p1]) (rest := []) S hK hE hst hP hS h0 (by decide) rfl (cw_X6_127 ht ⟨Nat.le_of_ble_eq_true rfl, Nat.le_of_ble_eq_true rfl⟩) rfl hl.1 rfl (Nat.le_of_ble_eq_true rfl) dX6_isWorkedWithin_12 z2 (fun _ _ h => c_X6_worked hG  h0 h) hf (fun x2 M H locs hP hS bx2 hf => ?_)
    refine lv_i2l (v := (Int32.toInt64 x2)) hx hb dX6_isWorkedWithin_15 rfl ?_
    refine lv_aload_n hx hb dX6_isWorkedWithin_16 rfl (lv_at hl 0 rfl) ?_
    refine gf_X6_12 S hK hP h0 dX6_isWorkedWithin_17 hf (fun x3 hx3 hf => ?_)
    refine gf_X6_118 S hK hP hx3 dX6_isWorkedWithin_20 hf (fun x4 hx4 hf => ?_)
    refine lv_iload_n hx hb dX6_isWorkedWithin_23 rfl (lv_at hl 1 rfl) ?_
    refine r_iald S hK hP hx4 dX6_isWorkedWithin_24 hf (fun x5 hf => ?_)
    refine lv_i2l (v := (Int32.toInt64 x5)) hx hb dX6_isWorkedWithin_25 rfl ?_
    refine lv_lsub hx hb dX6_isWorkedWithin_26 ?_
    refine r_vl hf (fun x6 hf => ?_)
    refine lv_lstore_n (lv' := [(3, .long x6), (0, .ref (ad o)), (1, .int p1), (2, .int p2)]) hx hb dX6_isWorkedWithin_27 rfl hl (by decide) rfl (fun ls hl => ?_)
    refine lv_lload_n hx hb dX6_isWorkedWithin_28 rfl (lv_at hl 0 rfl) ?_
    refine lv_iload_n hx hb dX6_isWorkedWithin_29 rfl (lv_at hl 3 rfl) ?_
    refine lv_ineg hx hb dX6_isWorkedWithin_30 ?_
    refine lv_i2l (v := (Int32.toInt64 (-p2))) hx hb dX6_isWorkedWithin_31 rfl ?_
    refine W.lcmp hx hb dX6_isWorkedWithin_32 ?_
    refine r_if_lt (tgt := 47) S dX6_isWorkedWithin_33 (by decide) hf (fun hf => ?_) (fun hf => ?_)
    · refine lv_iconst (v := 0) hx hb dX6_isWorkedWithin_47 (by decide) ?_
      exact hret _ _ _ _ _ _ dX6_isWorkedWithin_48 hP hS rfl hf
    · refine lv_lload_n hx hb dX6_isWorkedWithin_36 rfl (lv_at hl 0 rfl) ?_
      refine lv_iload_n hx hb dX6_isWorkedWithin_37 rfl (lv_at hl 3 rfl) ?_
      refine lv_i2l (v := (Int32.toInt64 p2)) hx hb dX6_isWorkedWithin_38 rfl ?_
      refine W.lcmp hx hb dX6_isWorkedWithin_39 ?_
      refine r_if_gt (tgt := 47) S dX6_isWorkedWithin_40 (by decide) hf (fun hf => ?_) (fun hf => ?_)
      · refine lv_iconst (v := 0) hx hb dX6_isWorkedWithin_47 (by decide) ?_
        exact hret _ _ _ _ _ _ dX6_isWorkedWithin_48 hP hS rfl hf
      · refine lv_iconst (v := 1) hx hb dX6_isWorkedWithin_43 (by decide) ?_
        refine lv_goto (tgt := 48) hx hb dX6_isWorkedWithin_44 (by decide) ?_
        exact hret _ _ _ _ _ _ dX6_isWorkedWithin_48 hP hS rfl hf
  · refine lv_iconst (v := 0) hx hb dX6_isWorkedWithin_8 (by decide) ?_
    exact hret _ _ _ _ _ _ dX6_isWorkedWithin_9 hP hS rfl hf
def f_X6_unlikeDigits (p0 : Int32) (p1 : Int32) (M : Mem) : Option (Int32 × Mem) :=
  it2 (fun rc3 (v1 : Int32) (v2 : Int32) M =>
    if 4 < v2 then
      some (v1, M)
    else
      sl cutsF v2 5 fun x4 =>
      dv x4 <|
      sl cutsF v2 5 fun x5 =>
      dv x5 <|
      if (jr (p0 / x4) 10) = (jr (p1 / x5) 10) then
        rc3 v1 (v2 + 1) M
      else
        rc3 (v1 + 1) (v2 + 1) M
  ) fuel 0 1 M
def rm_X6_unlikeDigits : Room := { frames := 0, cells := 0, slots := 0, locals := 0 }
set_option maxHeartbeats 4000000 in
set_option maxRecDepth 100000 in
theorem c_X6_unlikeDigits {l : Launch} {D : va_G} {K : Ks} {ad : Nat → Nat} {A : Nat → Prop} {tC tA tP : Nat} {kK kV : Nat → Nat} (hG : Gok G1 ad A) {p0 : Int32} {p1 : Int32}  {M : Mem} {r : Int32} {M' : Mem} (hf : f_X6_unlikeDigits p0 p1 M = some (r, M')) : Ct l (E1 A tC tA tP kK kV) D K G1 ad A yX6_unlikeDigits (ws_of yX6_unlikeDigits cX6_unlikeDigits 4 (some .int)) rm_X6_unlikeDigits .int [.int p0, .int p1] M r M' := by
  have hst : Est A (E1 A tC tA tP kK kV) := est1
  refine Ct.ofW (by decide) (Nat.le_of_ble_eq_true rfl) ?_
  intro p e s m args below meth c Q H locs ls S hK hE hP hS hl hret
  have hx := S.1
  have hb := S.2.1
  have hown := S.2.2.2.1
  have ht := S.2.2.2.2
  have hl : lv_has ls 4 [(0, .int p0), (1, .int p1)] := hl
  unfold f_X6_unlikeDigits at hf
  refine lv_iconst (v := 0) hx hb dX6_unlikeDigits_0 (by decide) ?_
  refine lv_istore_n (lv' := [(2, .int 0), (0, .int p0), (1, .int p1)]) hx hb dX6_unlikeDigits_1 rfl hl (by decide) rfl (fun ls hl => ?_)
  refine lv_iconst (v := 1) hx hb dX6_unlikeDigits_2 (by decide) ?_
  refine lv_istore_n (lv' := [(3, .int 1), (2, .int 0), (0, .int p0), (1, .int p1)]) hx hb dX6_unlikeDigits_3 rfl hl (by decide) rfl (fun ls hl => ?_)
  obtain ⟨F3, hF3, hf⟩ := it2_g hf
  have L3 : ∀ (n : Nat) (v1 : Int32) (v2 : Int32) (M : Mem) (H : Heap) (locs : List Loc) (ls : Array Slot), lv_has ls 4 [(0, .int p0), (1, .int p1), (2, .int v1), (3, .int v2)] → va_P D classes (gws K G1 ad M) H → va_S A s.heap H locs → it2 F3 n v1 v2 M = some (r, M') → W p l e rm_X6_unlikeDigits s m args below meth c H locs 0 0 Q (F0 m 4 ls []) := by
    intro n
    induction n with
    | zero => intro v1 v2 M H locs ls hl hP hS hf; exact nomatch hf
    | succ n ih3 =>
      intro v1 v2 M H locs ls hl hP hS hf
      obtain ⟨rc3, hrc3, hf⟩ := it2_w hf
      rw [← hrc3] at ih3
      rw [hF3] at hf
      refine lv_iload_n hx hb dX6_unlikeDigits_4 rfl (lv_at hl 3 rfl) ?_
      refine lv_iconst (v := 4) hx hb dX6_unlikeDigits_5 (by decide) ?_
      refine r_icmp_gt (tgt := 41) S dX6_unlikeDigits_6 (by decide) hf (fun hf => ?_) (fun hf => ?_)
      · refine lv_iload_n hx hb dX6_unlikeDigits_41 rfl (lv_at hl 2 rfl) ?_
        exact hret _ _ _ _ _ _ dX6_unlikeDigits_42 hP hS rfl hf
      · refine lv_iload_n hx hb dX6_unlikeDigits_9 rfl (lv_at hl 0 rfl) ?_
        refine va_getsN hx hb hE.1.1 hS hown (va_Nw.use rfl hE.2.2.2.1) (fun _ h => h) dX6_unlikeDigits_10 ?_
        refine lv_iload_n hx hb dX6_unlikeDigits_13 rfl (lv_at hl 3 rfl) ?_
        refine r_sl S hS hE.1.2 dX6_unlikeDigits_14 hf (fun x4 hf => ?_)
        refine r_idiv S dX6_unlikeDigits_15 hf (fun hf => ?_)
        refine lv_bipush (v := 10) hx hb dX6_unlikeDigits_16 (by decide) ?_
        refine lv_irem hx hb dX6_unlikeDigits_18 (by decide) ?_
        refine lv_iload_n hx hb dX6_unlikeDigits_19 rfl (lv_at hl 1 rfl) ?_
        refine va_getsN hx hb hE.1.1 hS hown (va_Nw.use rfl hE.2.2.2.1) (fun _ h => h) dX6_unlikeDigits_20 ?_
        refine lv_iload_n hx hb dX6_unlikeDigits_23 rfl (lv_at hl 3 rfl) ?_
        refine r_sl S hS hE.1.2 dX6_unlikeDigits_24 hf (fun x5 hf => ?_)
        refine r_idiv S dX6_unlikeDigits_25 hf (fun hf => ?_)
        refine lv_bipush (v := 10) hx hb dX6_unlikeDigits_26 (by decide) ?_
        refine lv_irem hx hb dX6_unlikeDigits_28 (by decide) ?_
        refine r_icmp_eq (tgt := 35) S dX6_unlikeDigits_29 (by decide) hf (fun hf => ?_) (fun hf => ?_)
        · refine lv_iinc (v := (v2 + 1)) (lv' := [(3, .int (v2 + 1)), (0, .int p0), (1, .int p1), (2, .int v1)]) hx hb dX6_unlikeDigits_35 hl (k := 3) rfl rfl (by decide) rfl (fun ls hl => ?_)
          refine lv_goto (tgt := 4) hx hb dX6_unlikeDigits_38 (by decide) ?_
          exact ih3 v1 (v2 + 1) M H locs ls (lv_sub hl [1, 2, 3, 0] rfl) hP hS hf
        · refine lv_iinc (v := (v1 + 1)) (lv' := [(2, .int (v1 + 1)), (0, .int p0), (1, .int p1), (3, .int v2)]) hx hb dX6_unlikeDigits_32 hl (k := 2) rfl rfl (by decide) rfl (fun ls hl => ?_)
          refine lv_iinc (v := (v2 + 1)) (lv' := [(3, .int (v2 + 1)), (2, .int (v1 + 1)), (0, .int p0), (1, .int p1)]) hx hb dX6_unlikeDigits_35 hl (k := 3) rfl rfl (by decide) rfl (fun ls hl => ?_)
          refine lv_goto (tgt := 4) hx hb dX6_unlikeDigits_38 (by decide) ?_
          exact ih3 (v1 + 1) (v2 + 1) M H locs ls (lv_sub hl [2, 3, 1, 0] rfl) hP hS hf
  exact L3 _ 0 1 M H locs ls (lv_sub hl [2, 3, 1, 0] rfl) hP hS hf
theorem cw_X6_135 {R : Room} {s : State} {args : Array Value} (ht : ∀ w ∈ Tw, w.before args s = true) (hR : rm_X6_spreadOf.frames + 1 ≤ R.frames ∧ 8 + (2 + 11) + rm_X6_spreadOf.locals ≤ R.locals) : CallW R s args RX6 RX6 135 yX6_spreadOf cX6_spreadOf 2 (some .int) (ws_of yX6_spreadOf cX6_spreadOf 2 (some .int)) rm_X6_spreadOf 0 0 1 := cw_V 1 ht k_448 k_449 k_450 k_64 k_451 (by decide +kernel) rfl rfl hR
theorem cw_X6_138 {R : Room} {s : State} {args : Array Value} (ht : ∀ w ∈ Tw, w.before args s = true) (hR : rm_X6_isWorkedWithin.frames + 1 ≤ R.frames ∧ 8 + (5 + 11) + rm_X6_isWorkedWithin.locals ≤ R.locals) : CallW R s args RX6 RX6 138 yX6_isWorkedWithin cX6_isWorkedWithin 5 (some .boolean) (ws_of yX6_isWorkedWithin cX6_isWorkedWithin 5 (some .boolean)) rm_X6_isWorkedWithin 0 0 2 := cw_V 2 ht k_476 k_478 k_0 k_64 k_479 (by decide +kernel) rfl rfl hR
theorem cw_X6_142 {R : Room} {s : State} {args : Array Value} (ht : ∀ w ∈ Tw, w.before args s = true) (hR : rm_X6_unlikeDigits.frames + 1 ≤ R.frames ∧ 8 + (4 + 11) + rm_X6_unlikeDigits.locals ≤ R.locals) : CallB R s args RX6 142 yX6_unlikeDigits cX6_unlikeDigits 4 (some .int) (ws_of yX6_unlikeDigits cX6_unlikeDigits 4 (some .int)) rm_X6_unlikeDigits 0 0 2 ∧ (Cond.static yX6_unlikeDigits).before args s = true := cw_S 2 ht k_492 k_493 k_64 k_494 (by decide +kernel) rfl rfl hR
def f_X6_fits (o : Nat) (p1 : Int32) (p2 : Int32) (M : Mem) : Option (Int32 × Mem) :=
  vv (grf G1 o 0) fun x1 =>
  vv (grf G1 x1 5) fun x2 =>
  ld M x2 p1 40 fun x3 =>
  vv (grf G1 o 0) fun x4 =>
  vv (grf G1 x4 7) fun x5 =>
  ld M x5 p1 40 fun x6 =>
  vv (grf G1 o 0) fun x7 =>
  bd (f_X0_has x7 x6 M) fun x8 M =>
  jn (fun (v9 : Int32) (M : Mem) =>
    if p2 = 1 then
      vv (M o 7) fun x11 =>
      vv (if 0 ≤ (x3 - x11) then (x3 - x11) else 0 - (x3 - x11)) fun x12 =>
      bd (f_X6_spreadOf o p1 M) fun x13 M =>
      if x13 < x12 then
        some (0, M)
      else
        some (1, M)
    else
    if p2 = 2 then
      bd (f_X6_isWorkedWithin o p1 0 M) fun x16 M =>
      some (x16, M)
    else
    if p2 = 3 then
      bd (f_X6_isWorkedWithin o p1 50 M) fun x19 M =>
      some (x19, M)
    else
    if p2 = 4 then
      if v9 = x3 then
        some (1, M)
      else
        some (0, M)
    else
    if p2 = 5 then
      if v9 < 0 then
        some (0, M)
      else
        bd (f_X6_unlikeDigits x3 v9 M) fun x24 M =>
        if x24 = 1 then
          some (1, M)
        else
          some (0, M)
    else
    if p2 = 6 then
      some (1, M)
    else
    if p2 = 7 then
      if v9 < 0 then
        some (0, M)
      else
        if (jr (x3 + v9) 2) = 0 then
          some (1, M)
        else
          some (0, M)
    else
    some (1, M)
  ) fun k10 =>
  if x8 = 0 then
    k10 (-1) M
  else
    vv (grf G1 o 0) fun x31 =>
    vv (grf G1 x31 5) fun x32 =>
    ld M x32 x6 40 fun x33 =>
    k10 x33 M
def rm_X6_fits : Room := { frames := 4, cells := 0, slots := 0, locals := 97 }
set_option maxHeartbeats 4000000 in
set_option maxRecDepth 100000 in
theorem c_X6_fits {l : Launch} {D : va_G} {K : Ks} {ad : Nat → Nat} {A : Nat → Prop} {tC tA tP : Nat} {kK kV : Nat → Nat} (hG : Gok G1 ad A) {o : Nat} {p1 : Int32} {p2 : Int32} (h0 : gcl G1 o = 6) {M : Mem} {r : Int32} {M' : Mem} (hf : f_X6_fits o p1 p2 M = some (r, M')) : Ct l (E1 A tC tA tP kK kV) D K G1 ad A yX6_fits (ws_of yX6_fits cX6_fits 6 (some .boolean)) rm_X6_fits .boolean [.ref (ad o), .int p1, .int p2] M r M' := by
  have hst : Est A (E1 A tC tA tP kK kV) := est1
  refine Ct.ofW (by decide) (Nat.le_of_ble_eq_true rfl) ?_
  intro p e s m args below meth c Q H locs ls S hK hE hP hS hl hret
  have hx := S.1
  have hb := S.2.1
  have hown := S.2.2.2.1
  have ht := S.2.2.2.2
  have hl : lv_has ls 6 [(0, .ref (ad o)), (1, .int p1), (2, .int p2)] := hl
  unfold f_X6_fits at hf
  refine lv_aload_n hx hb dX6_fits_0 rfl (lv_at hl 0 rfl) ?_
  refine gf_X6_12 S hK hP h0 dX6_fits_1 hf (fun x1 hx1 hf => ?_)
  refine gf_X6_118 S hK hP hx1 dX6_fits_4 hf (fun x2 hx2 hf => ?_)
  refine lv_iload_n hx hb dX6_fits_7 rfl (lv_at hl 1 rfl) ?_
  refine r_iald S hK hP hx2 dX6_fits_8 hf (fun x3 hf => ?_)
  refine lv_istore_n (lv' := [(3, .int x3), (0, .ref (ad o)), (1, .int p1), (2, .int p2)]) hx hb dX6_fits_9 rfl hl (by decide) rfl (fun ls hl => ?_)
  refine lv_aload_n hx hb dX6_fits_10 rfl (lv_at hl 1 rfl) ?_
  refine gf_X6_12 S hK hP h0 dX6_fits_11 hf (fun x4 hx4 hf => ?_)
  refine gf_X6_111 S hK hP hx4 dX6_fits_14 hf (fun x5 hx5 hf => ?_)
  refine lv_iload_n hx hb dX6_fits_17 rfl (lv_at hl 2 rfl) ?_
  refine r_iald S hK hP hx5 dX6_fits_18 hf (fun x6 hf => ?_)
  refine lv_istore (lv' := [(4, .int x6), (3, .int x3), (0, .ref (ad o)), (1, .int p1), (2, .int p2)]) hx hb dX6_fits_19 hl (by decide) rfl (fun ls hl => ?_)
  refine lv_aload_n hx hb dX6_fits_21 rfl (lv_at hl 2 rfl) ?_
  refine gf_X6_12 S hK hP h0 dX6_fits_22 hf (fun x7 hx7 hf => ?_)
  refine lv_iload hx hb dX6_fits_25 (lv_at hl 0 rfl) ?_
  refine r_callV (As := [.int x6]) (rest := []) S hK hE hst hP hS hx7 (by decide) rfl (cw_X6_114 ht ⟨Nat.le_of_ble_eq_true rfl, Nat.le_of_ble_eq_true rfl⟩) rfl hl.1 rfl (Nat.le_of_ble_eq_true rfl) dX6_fits_27 z2 (fun _ _ h => c_X0_has hG  hx7 h) hf (fun x8 M H locs hP hS bx8 hf => ?_)
  obtain ⟨k10, hk10, hf⟩ := jn_w hf
  have J10 : ∀ (v9 : Int32) (M : Mem) (H : Heap) (locs : List Loc) (ls : Array Slot), lv_has ls 6 [(0, .ref (ad o)), (1, .int p1), (2, .int p2), (3, .int x3)] → va_P D classes (gws K G1 ad M) H → va_S A s.heap H locs → k10 v9 M = some (r, M') → W p l e rm_X6_fits s m args below meth c H locs 0 0 Q (F0 m 47 ls [.int v9]) := by
    intro v9 M H locs ls hl hP hS hf
    rw [hk10] at hf
    refine lv_istore (lv' := [(5, .int v9), (0, .ref (ad o)), (1, .int p1), (2, .int p2), (3, .int x3)]) hx hb dX6_fits_47 hl (by decide) rfl (fun ls hl => ?_)
    refine lv_iload_n hx hb dX6_fits_49 rfl (lv_at hl 3 rfl) ?_
    refine r_case hf (fun e14 hf => ?_) (fun n15 hf => ?_)
    · refine lv_tableIn (x := p2) (tgt := 92) hx hb dX6_fits_50 (by rw [e14]; decide) (by rw [e14]; decide) (by rw [e14]; rfl) (by decide) ?_
      refine lv_iload_n hx hb dX6_fits_92 rfl (lv_at hl 4 rfl) ?_
      refine lv_aload_n hx hb dX6_fits_93 rfl (lv_at hl 1 rfl) ?_
      refine gf_X6_50 S hK hP h0 dX6_fits_94 hf (fun x11 hf => ?_)
      refine lv_isub hx hb dX6_fits_97 ?_
      refine r_abs S k_445 k_446 k_74 k_447 hl.1 (Nat.le_of_ble_eq_true rfl) (Nat.le_of_ble_eq_true rfl) z2 dX6_fits_98 ?_
      refine r_vi hf (fun x12 hf => ?_)
      refine lv_aload_n hx hb dX6_fits_101 rfl (lv_at hl 1 rfl) ?_
      refine lv_iload_n hx hb dX6_fits_102 rfl (lv_at hl 2 rfl) ?_
      refine r_callV (As := [.int p1]) (rest := [.int x12]) S hK hE hst hP hS h0 (by decide) rfl (cw_X6_135 ht ⟨Nat.le_of_ble_eq_true rfl, Nat.le_of_ble_eq_true rfl⟩) rfl hl.1 rfl (Nat.le_of_ble_eq_true rfl) dX6_fits_103 z2 (fun _ _ h => c_X6_spreadOf hG  h0 h) hf (fun x13 M H locs hP hS bx13 hf => ?_)
      refine r_icmp_gt (tgt := 113) S dX6_fits_106 (by decide) hf (fun hf => ?_) (fun hf => ?_)
      · refine lv_iconst (v := 0) hx hb dX6_fits_113 (by decide) ?_
        exact hret _ _ _ _ _ _ dX6_fits_114 hP hS rfl hf
      · refine lv_iconst (v := 1) hx hb dX6_fits_109 (by decide) ?_
        refine lv_goto (tgt := 114) hx hb dX6_fits_110 (by decide) ?_
        exact hret _ _ _ _ _ _ dX6_fits_114 hP hS rfl hf
    refine r_case hf (fun e17 hf => ?_) (fun n18 hf => ?_)
    · refine lv_tableIn (x := p2) (tgt := 115) hx hb dX6_fits_50 (by rw [e17]; decide) (by rw [e17]; decide) (by rw [e17]; rfl) (by decide) ?_
      refine lv_aload_n hx hb dX6_fits_115 rfl (lv_at hl 1 rfl) ?_
      refine lv_iload_n hx hb dX6_fits_116 rfl (lv_at hl 2 rfl) ?_
      refine lv_iconst (v := 0) hx hb dX6_fits_117 (by decide) ?_
      refine r_callV (As := [.int p1, .int 0]) (rest := []) S hK hE hst hP hS h0 (by decide) rfl (cw_X6_138 ht ⟨Nat.le_of_ble_eq_true rfl, Nat.le_of_ble_eq_true rfl⟩) rfl hl.1 rfl (Nat.le_of_ble_eq_true rfl) dX6_fits_118 z2 (fun _ _ h => c_X6_isWorkedWithin hG  h0 h) hf (fun x16 M H locs hP hS bx16 hf => ?_)
      exact hret _ _ _ _ _ _ dX6_fits_121 hP hS bx16 hf
    refine r_case hf (fun e20 hf => ?_) (fun n21 hf => ?_)
    · refine lv_tableIn (x := p2) (tgt := 122) hx hb dX6_fits_50 (by rw [e20]; decide) (by rw [e20]; decide) (by rw [e20]; rfl) (by decide) ?_
      refine lv_aload_n hx hb dX6_fits_122 rfl (lv_at hl 1 rfl) ?_
      refine lv_iload_n hx hb dX6_fits_123 rfl (lv_at hl 2 rfl) ?_
      refine lv_bipush (v := 50) hx hb dX6_fits_124 (by decide) ?_
      refine r_callV (As := [.int p1, .int 50]) (rest := []) S hK hE hst hP hS h0 (by decide) rfl (cw_X6_138 ht ⟨Nat.le_of_ble_eq_true rfl, Nat.le_of_ble_eq_true rfl⟩) rfl hl.1 rfl (Nat.le_of_ble_eq_true rfl) dX6_fits_126 z2 (fun _ _ h => c_X6_isWorkedWithin hG  h0 h) hf (fun x19 M H locs hP hS bx19 hf => ?_)
      exact hret _ _ _ _ _ _ dX6_fits_129 hP hS bx19 hf
    refine r_case hf (fun e22 hf => ?_) (fun n23 hf => ?_)
    · refine lv_tableIn (x := p2) (tgt := 130) hx hb dX6_fits_50 (by rw [e22]; decide) (by rw [e22]; decide) (by rw [e22]; rfl) (by decide) ?_
      refine lv_iload hx hb dX6_fits_130 (lv_at hl 0 rfl) ?_
      refine lv_iload_n hx hb dX6_fits_132 rfl (lv_at hl 4 rfl) ?_
      refine r_icmp_ne (tgt := 140) S dX6_fits_133 (by decide) hf (fun hf => ?_) (fun hf => ?_)
      · refine lv_iconst (v := 0) hx hb dX6_fits_140 (by decide) ?_
        exact hret _ _ _ _ _ _ dX6_fits_141 hP hS rfl hf
      · refine lv_iconst (v := 1) hx hb dX6_fits_136 (by decide) ?_
        refine lv_goto (tgt := 141) hx hb dX6_fits_137 (by decide) ?_
        exact hret _ _ _ _ _ _ dX6_fits_141 hP hS rfl hf
    refine r_case hf (fun e25 hf => ?_) (fun n26 hf => ?_)
    · refine lv_tableIn (x := p2) (tgt := 142) hx hb dX6_fits_50 (by rw [e25]; decide) (by rw [e25]; decide) (by rw [e25]; rfl) (by decide) ?_
      refine lv_iload hx hb dX6_fits_142 (lv_at hl 0 rfl) ?_
      refine r_if_lt (tgt := 161) S dX6_fits_144 (by decide) hf (fun hf => ?_) (fun hf => ?_)
      · refine lv_iconst (v := 0) hx hb dX6_fits_161 (by decide) ?_
        exact hret _ _ _ _ _ _ dX6_fits_162 hP hS rfl hf
      · refine lv_iload_n hx hb dX6_fits_147 rfl (lv_at hl 4 rfl) ?_
        refine lv_iload hx hb dX6_fits_148 (lv_at hl 0 rfl) ?_
        refine r_callS (As := [.int x3, .int v9]) (rest := []) S hK hE hst hP hS (cw_X6_142 ht ⟨Nat.le_of_ble_eq_true rfl, Nat.le_of_ble_eq_true rfl⟩) rfl hl.1 rfl (Nat.le_of_ble_eq_true rfl) dX6_fits_150 z2 (fun _ _ h => c_X6_unlikeDigits hG  h) hf (fun x24 M H locs hP hS bx24 hf => ?_)
        refine lv_iconst (v := 1) hx hb dX6_fits_153 (by decide) ?_
        refine r_icmp_ne (tgt := 161) S dX6_fits_154 (by decide) hf (fun hf => ?_) (fun hf => ?_)
        · refine lv_iconst (v := 0) hx hb dX6_fits_161 (by decide) ?_
          exact hret _ _ _ _ _ _ dX6_fits_162 hP hS rfl hf
        · refine lv_iconst (v := 1) hx hb dX6_fits_157 (by decide) ?_
          refine lv_goto (tgt := 162) hx hb dX6_fits_158 (by decide) ?_
          exact hret _ _ _ _ _ _ dX6_fits_162 hP hS rfl hf
    refine r_case hf (fun e27 hf => ?_) (fun n28 hf => ?_)
    · refine lv_tableIn (x := p2) (tgt := 183) hx hb dX6_fits_50 (by rw [e27]; decide) (by rw [e27]; decide) (by rw [e27]; rfl) (by decide) ?_
      refine lv_iconst (v := 1) hx hb dX6_fits_183 (by decide) ?_
      exact hret _ _ _ _ _ _ dX6_fits_184 hP hS rfl hf
    refine r_case hf (fun e29 hf => ?_) (fun n30 hf => ?_)
    · refine lv_tableIn (x := p2) (tgt := 163) hx hb dX6_fits_50 (by rw [e29]; decide) (by rw [e29]; decide) (by rw [e29]; rfl) (by decide) ?_
      refine lv_iload hx hb dX6_fits_163 (lv_at hl 0 rfl) ?_
      refine r_if_lt (tgt := 181) S dX6_fits_165 (by decide) hf (fun hf => ?_) (fun hf => ?_)
      · refine lv_iconst (v := 0) hx hb dX6_fits_181 (by decide) ?_
        exact hret _ _ _ _ _ _ dX6_fits_182 hP hS rfl hf
      · refine lv_iload_n hx hb dX6_fits_168 rfl (lv_at hl 4 rfl) ?_
        refine lv_iload hx hb dX6_fits_169 (lv_at hl 0 rfl) ?_
        refine lv_iadd hx hb dX6_fits_171 ?_
        refine lv_iconst (v := 2) hx hb dX6_fits_172 (by decide) ?_
        refine lv_irem hx hb dX6_fits_173 (by decide) ?_
        refine r_if_ne (tgt := 181) S dX6_fits_174 (by decide) hf (fun hf => ?_) (fun hf => ?_)
        · refine lv_iconst (v := 0) hx hb dX6_fits_181 (by decide) ?_
          exact hret _ _ _ _ _ _ dX6_fits_182 hP hS rfl hf
        · refine lv_iconst (v := 1) hx hb dX6_fits_177 (by decide) ?_
          refine lv_goto (tgt := 182) hx hb dX6_fits_178 (by decide) ?_
          exact hret _ _ _ _ _ _ dX6_fits_182 hP hS rfl hf
    refine lv_tableOut (x := p2) (tgt := 183) hx hb dX6_fits_50 (by have q0 := lv_neT (a := 1) n15 (by decide); have q1 := lv_neT (a := 2) n18 (by decide); have q2 := lv_neT (a := 3) n21 (by decide); have q3 := lv_neT (a := 4) n23 (by decide); have q4 := lv_neT (a := 5) n26 (by decide); have q5 := lv_neT (a := 6) n28 (by decide); have q6 := lv_neT (a := 7) n30 (by decide); omega) (by decide) ?_
    refine lv_iconst (v := 1) hx hb dX6_fits_183 (by decide) ?_
    exact hret _ _ _ _ _ _ dX6_fits_184 hP hS rfl hf
  refine r_if_eq (tgt := 46) S dX6_fits_30 (by decide) hf (fun hf => ?_) (fun hf => ?_)
  · refine lv_iconst (v := (-1)) hx hb dX6_fits_46 (by decide) ?_
    exact J10 (-1) M H locs ls (lv_sub hl [2, 3, 4, 1] rfl) hP hS hf
  · refine lv_aload_n hx hb dX6_fits_33 rfl (lv_at hl 2 rfl) ?_
    refine gf_X6_12 S hK hP h0 dX6_fits_34 hf (fun x31 hx31 hf => ?_)
    refine gf_X6_118 S hK hP hx31 dX6_fits_37 hf (fun x32 hx32 hf => ?_)
    refine lv_iload hx hb dX6_fits_40 (lv_at hl 0 rfl) ?_
    refine r_iald S hK hP hx32 dX6_fits_42 hf (fun x33 hf => ?_)
    refine lv_goto (tgt := 47) hx hb dX6_fits_43 (by decide) ?_
    exact J10 x33 M H locs ls (lv_sub hl [2, 3, 4, 1] rfl) hP hS hf
theorem cw_X6_154 {R : Room} {s : State} {args : Array Value} (ht : ∀ w ∈ Tw, w.before args s = true) (hR : rm_X6_fits.frames + 1 ≤ R.frames ∧ 8 + (6 + 11) + rm_X6_fits.locals ≤ R.locals) : CallW R s args RX6 RX6 154 yX6_fits cX6_fits 6 (some .boolean) (ws_of yX6_fits cX6_fits 6 (some .boolean)) rm_X6_fits 0 0 2 := cw_V 2 ht k_827 k_441 k_442 k_64 k_443 (by decide +kernel) rfl rfl hR
section
variable {p : Program} {l : Launch} {e : Env} {R : Room} {s : State} {m : MethodId} {args : Array Value} {below : List Frame} {meth : Method} {c : Code} {H : Heap} {locs : List Loc} {cells slots : Nat} {Q : State → Prop} {cc : ByteArray} {pc : Nat} {ls : Array Slot} {rest : List Value} {nL : Nat} {D : va_G} {K : Ks} {ad : Nat → Nat} {A : Nat → Prop} {M : Mem} {β : Type} {z : β}
theorem gf_X6_148 (S : CallFix p m c cc nL s args Tw RX6) (hK : va_K D classes (gty K) s) (hP : va_P D classes (gws K G1 ad M) H) {a : Nat} {kk : Int32 → Option β} (ha : gcl G1 a = 0) (hdg : decode cc pc = .ok (.getfield 148, 3)) (hf : vv (M a 2) kk = some z) (w : ∀ x, kk x = some z → W p l e R s m args below meth c H locs cells slots Q (F0 m (pc + 3) ls (.int x :: rest))) : W p l e R s m args below meth c H locs cells slots Q (F0 m pc ls (.ref (ad a) :: rest)) := r_geti S hK hP (T := TX0) inX0 rfl (by decide) (by decide) ha (sf_X0_2 ha) k_107 hdg hf w
end
section
variable {p : Program} {l : Launch} {e : Env} {R : Room} {s : State} {m : MethodId} {args : Array Value} {below : List Frame} {meth : Method} {c : Code} {H : Heap} {locs : List Loc} {cells slots : Nat} {Q : State → Prop} {cc : ByteArray} {pc : Nat} {ls : Array Slot} {rest : List Value} {nL : Nat} {D : va_G} {K : Ks} {ad : Nat → Nat} {A : Nat → Prop} {M : Mem} {β : Type} {z : β}
theorem gf_X6_151 (S : CallFix p m c cc nL s args Tw RX6) (hK : va_K D classes (gty K) s) (hP : va_P D classes (gws K G1 ad M) H) {a : Nat} {kk : Nat → Option β} (ha : gcl G1 a = 0) (hdg : decode cc pc = .ok (.getfield 151, 3)) (hf : vv (grf G1 a 4) kk = some z) (w : ∀ b, gcl G1 b = 20 ∧ gsz G1 b = 40 → kk b = some z → W p l e R s m args below meth c H locs cells slots Q (F0 m (pc + 3) ls (.ref (ad b) :: rest))) : W p l e R s m args below meth c H locs cells slots Q (F0 m pc ls (.ref (ad a) :: rest)) := r_getr S hK hP (T := TX0) inX0 rfl (by decide) (by decide) ha (sf_X0_4 ha).1 k_113 hdg hf (fun b e => w b (by rw [e]; exact (sf_X0_4 ha).2))
end
def f_X6_fitting (o : Nat) (M : Mem) : Option (Int32 × Mem) :=
  it2 (fun rc3 (v1 : Int32) (v2 : Int32) M =>
    vv (grf G1 o 0) fun x4 =>
    vv (M x4 2) fun x5 =>
    if v2 < x5 then
      vv (grf G1 o 0) fun x6 =>
      vv (grf G1 x6 4) fun x7 =>
      ld M x7 v2 40 fun x8 =>
      bd (f_X6_fits o v2 x8 M) fun x9 M =>
      if x9 = 0 then
        rc3 v1 (v2 + 1) M
      else
        rc3 (v1 + 1) (v2 + 1) M
    else
      some (v1, M)
  ) fuel 0 0 M
def rm_X6_fitting : Room := { frames := 5, cells := 0, slots := 0, locals := 122 }
set_option maxHeartbeats 4000000 in
set_option maxRecDepth 100000 in
theorem c_X6_fitting {l : Launch} {D : va_G} {K : Ks} {ad : Nat → Nat} {A : Nat → Prop} {tC tA tP : Nat} {kK kV : Nat → Nat} (hG : Gok G1 ad A) {o : Nat} (h0 : gcl G1 o = 6) {M : Mem} {r : Int32} {M' : Mem} (hf : f_X6_fitting o M = some (r, M')) : Ct l (E1 A tC tA tP kK kV) D K G1 ad A yX6_fitting (ws_of yX6_fitting cX6_fitting 3 (some .int)) rm_X6_fitting .int [.ref (ad o)] M r M' := by
  have hst : Est A (E1 A tC tA tP kK kV) := est1
  refine Ct.ofW (by decide) (Nat.le_of_ble_eq_true rfl) ?_
  intro p e s m args below meth c Q H locs ls S hK hE hP hS hl hret
  have hx := S.1
  have hb := S.2.1
  have hown := S.2.2.2.1
  have ht := S.2.2.2.2
  have hl : lv_has ls 3 [(0, .ref (ad o))] := hl
  unfold f_X6_fitting at hf
  refine lv_iconst (v := 0) hx hb dX6_fitting_0 (by decide) ?_
  refine lv_istore_n (lv' := [(1, .int 0), (0, .ref (ad o))]) hx hb dX6_fitting_1 rfl hl (by decide) rfl (fun ls hl => ?_)
  refine lv_iconst (v := 0) hx hb dX6_fitting_2 (by decide) ?_
  refine lv_istore_n (lv' := [(2, .int 0), (1, .int 0), (0, .ref (ad o))]) hx hb dX6_fitting_3 rfl hl (by decide) rfl (fun ls hl => ?_)
  obtain ⟨F3, hF3, hf⟩ := it2_g hf
  have L3 : ∀ (n : Nat) (v1 : Int32) (v2 : Int32) (M : Mem) (H : Heap) (locs : List Loc) (ls : Array Slot), lv_has ls 3 [(0, .ref (ad o)), (1, .int v1), (2, .int v2)] → va_P D classes (gws K G1 ad M) H → va_S A s.heap H locs → it2 F3 n v1 v2 M = some (r, M') → W p l e rm_X6_fitting s m args below meth c H locs 0 0 Q (F0 m 4 ls []) := by
    intro n
    induction n with
    | zero => intro v1 v2 M H locs ls hl hP hS hf; exact nomatch hf
    | succ n ih3 =>
      intro v1 v2 M H locs ls hl hP hS hf
      obtain ⟨rc3, hrc3, hf⟩ := it2_w hf
      rw [← hrc3] at ih3
      rw [hF3] at hf
      refine lv_iload_n hx hb dX6_fitting_4 rfl (lv_at hl 2 rfl) ?_
      refine lv_aload_n hx hb dX6_fitting_5 rfl (lv_at hl 0 rfl) ?_
      refine gf_X6_12 S hK hP h0 dX6_fitting_6 hf (fun x4 hx4 hf => ?_)
      refine gf_X6_148 S hK hP hx4 dX6_fitting_9 hf (fun x5 hf => ?_)
      refine r_icmp_ge (tgt := 41) S dX6_fitting_12 (by decide) hf (fun hf => ?_) (fun hf => ?_)
      · refine lv_iload_n hx hb dX6_fitting_41 rfl (lv_at hl 1 rfl) ?_
        exact hret _ _ _ _ _ _ dX6_fitting_42 hP hS rfl hf
      · refine lv_aload_n hx hb dX6_fitting_15 rfl (lv_at hl 0 rfl) ?_
        refine lv_iload_n hx hb dX6_fitting_16 rfl (lv_at hl 2 rfl) ?_
        refine lv_aload_n hx hb dX6_fitting_17 rfl (lv_at hl 0 rfl) ?_
        refine gf_X6_12 S hK hP h0 dX6_fitting_18 hf (fun x6 hx6 hf => ?_)
        refine gf_X6_151 S hK hP hx6 dX6_fitting_21 hf (fun x7 hx7 hf => ?_)
        refine lv_iload_n hx hb dX6_fitting_24 rfl (lv_at hl 2 rfl) ?_
        refine r_iald S hK hP hx7 dX6_fitting_25 hf (fun x8 hf => ?_)
        refine r_callV (As := [.int v2, .int x8]) (rest := []) S hK hE hst hP hS h0 (by decide) rfl (cw_X6_154 ht ⟨Nat.le_of_ble_eq_true rfl, Nat.le_of_ble_eq_true rfl⟩) rfl hl.1 rfl (Nat.le_of_ble_eq_true rfl) dX6_fitting_26 z2 (fun _ _ h => c_X6_fits hG  h0 h) hf (fun x9 M H locs hP hS bx9 hf => ?_)
        refine r_if_eq (tgt := 35) S dX6_fitting_29 (by decide) hf (fun hf => ?_) (fun hf => ?_)
        · refine lv_iinc (v := (v2 + 1)) (lv' := [(2, .int (v2 + 1)), (0, .ref (ad o)), (1, .int v1)]) hx hb dX6_fitting_35 hl (k := 2) rfl rfl (by decide) rfl (fun ls hl => ?_)
          refine lv_goto (tgt := 4) hx hb dX6_fitting_38 (by decide) ?_
          exact ih3 v1 (v2 + 1) M H locs ls (lv_sub hl [1, 2, 0] rfl) hP hS hf
        · refine lv_iinc (v := (v1 + 1)) (lv' := [(1, .int (v1 + 1)), (0, .ref (ad o)), (2, .int v2)]) hx hb dX6_fitting_32 hl (k := 1) rfl rfl (by decide) rfl (fun ls hl => ?_)
          refine lv_iinc (v := (v2 + 1)) (lv' := [(2, .int (v2 + 1)), (1, .int (v1 + 1)), (0, .ref (ad o))]) hx hb dX6_fitting_35 hl (k := 2) rfl rfl (by decide) rfl (fun ls hl => ?_)
          refine lv_goto (tgt := 4) hx hb dX6_fitting_38 (by decide) ?_
          exact ih3 (v1 + 1) (v2 + 1) M H locs ls (lv_sub hl [2, 1, 0] rfl) hP hS hf
  exact L3 _ 0 0 M H locs ls (lv_sub hl [2, 1, 0] rfl) hP hS hf
theorem cw_X6_157 {R : Room} {s : State} {args : Array Value} (ht : ∀ w ∈ Tw, w.before args s = true) (hR : rm_X0_withLast.frames + 1 ≤ R.frames ∧ 8 + (4 + 11) + rm_X0_withLast.locals ≤ R.locals) : CallW R s args RX6 RX0 157 yX0_withLast cX0_withLast 4 (some .int) (ws_of yX0_withLast cX0_withLast 4 (some .int)) rm_X0_withLast 0 0 1 := cw_V 1 ht k_814 k_799 k_800 k_65 k_801 (by decide +kernel) rfl rfl hR
def f_X6_isOdd (o : Nat) (p1 : Int32) (M : Mem) : Option (Int32 × Mem) :=
  vv (grf G1 o 0) fun x1 =>
  bd (f_X0_withLast x1 p1 M) fun x2 M =>
  vv (grf G1 o 1) fun x3 =>
  bd (f_X8_latest x3 2 0 M) fun x4 M =>
  if x4 = (-1000000005) then
    vv (grf G1 o 0) fun x9 =>
    vv (M x9 2) fun x10 =>
    if (x10 / 3) < x2 then
      some (1, M)
    else
      some (0, M)
  else
    vv (grf G1 o 1) fun x5 =>
    vv (grf G1 o 0) fun x6 =>
    vv (M x6 2) fun x7 =>
    bd (f_X8_give x5 x4 x2 p1 x7 M) fun x8 M =>
    if x8 = 0 then
      some (0, M)
    else
      some (1, M)
def rm_X6_isOdd : Room := { frames := 2, cells := 0, slots := 0, locals := 49 }
set_option maxHeartbeats 4000000 in
set_option maxRecDepth 100000 in
theorem c_X6_isOdd {l : Launch} {D : va_G} {K : Ks} {ad : Nat → Nat} {A : Nat → Prop} {tC tA tP : Nat} {kK kV : Nat → Nat} (hG : Gok G1 ad A) {o : Nat} {p1 : Int32} (h0 : gcl G1 o = 6) {M : Mem} {r : Int32} {M' : Mem} (hf : f_X6_isOdd o p1 M = some (r, M')) : Ct l (E1 A tC tA tP kK kV) D K G1 ad A yX6_isOdd (ws_of yX6_isOdd cX6_isOdd 4 (some .boolean)) rm_X6_isOdd .boolean [.ref (ad o), .int p1] M r M' := by
  have hst : Est A (E1 A tC tA tP kK kV) := est1
  refine Ct.ofW (by decide) (Nat.le_of_ble_eq_true rfl) ?_
  intro p e s m args below meth c Q H locs ls S hK hE hP hS hl hret
  have hx := S.1
  have hb := S.2.1
  have hown := S.2.2.2.1
  have ht := S.2.2.2.2
  have hl : lv_has ls 4 [(0, .ref (ad o)), (1, .int p1)] := hl
  unfold f_X6_isOdd at hf
  refine lv_aload_n hx hb dX6_isOdd_0 rfl (lv_at hl 0 rfl) ?_
  refine gf_X6_12 S hK hP h0 dX6_isOdd_1 hf (fun x1 hx1 hf => ?_)
  refine lv_iload_n hx hb dX6_isOdd_4 rfl (lv_at hl 1 rfl) ?_
  refine r_callV (As := [.int p1]) (rest := []) S hK hE hst hP hS hx1 (by decide) rfl (cw_X6_157 ht ⟨Nat.le_of_ble_eq_true rfl, Nat.le_of_ble_eq_true rfl⟩) rfl hl.1 rfl (Nat.le_of_ble_eq_true rfl) dX6_isOdd_5 z2 (fun _ _ h => c_X0_withLast hG  hx1 h) hf (fun x2 M H locs hP hS bx2 hf => ?_)
  refine lv_istore_n (lv' := [(2, .int x2), (0, .ref (ad o)), (1, .int p1)]) hx hb dX6_isOdd_8 rfl hl (by decide) rfl (fun ls hl => ?_)
  refine lv_aload_n hx hb dX6_isOdd_9 rfl (lv_at hl 1 rfl) ?_
  refine gf_X6_21 S hK hP h0 dX6_isOdd_10 hf (fun x3 hx3 hf => ?_)
  refine lv_iconst (v := 2) hx hb dX6_isOdd_13 (by decide) ?_
  refine lv_iconst (v := 0) hx hb dX6_isOdd_14 (by decide) ?_
  refine r_callV (As := [.int 2, .int 0]) (rest := []) S hK hE hst hP hS hx3 (by decide) rfl (cw_X6_85 ht ⟨Nat.le_of_ble_eq_true rfl, Nat.le_of_ble_eq_true rfl⟩) rfl hl.1 rfl (Nat.le_of_ble_eq_true rfl) dX6_isOdd_15 z2 (fun _ _ h => c_X8_latest hG  hx3 h) hf (fun x4 M H locs hP hS bx4 hf => ?_)
  refine lv_istore_n (lv' := [(3, .int x4), (2, .int x2), (0, .ref (ad o)), (1, .int p1)]) hx hb dX6_isOdd_18 rfl hl (by decide) rfl (fun ls hl => ?_)
  refine lv_iload_n hx hb dX6_isOdd_19 rfl (lv_at hl 0 rfl) ?_
  refine lv_ldc (v := (-1000000005)) hx hb hown (ht _ k_465) dX6_isOdd_20 ?_
  refine r_icmp_ne (tgt := 44) S dX6_isOdd_22 (by decide) hf (fun hf => ?_) (fun hf => ?_)
  · refine lv_aload_n hx hb dX6_isOdd_44 rfl (lv_at hl 2 rfl) ?_
    refine gf_X6_21 S hK hP h0 dX6_isOdd_45 hf (fun x5 hx5 hf => ?_)
    refine lv_iload_n hx hb dX6_isOdd_48 rfl (lv_at hl 0 rfl) ?_
    refine lv_iload_n hx hb dX6_isOdd_49 rfl (lv_at hl 1 rfl) ?_
    refine lv_iload_n hx hb dX6_isOdd_50 rfl (lv_at hl 3 rfl) ?_
    refine lv_aload_n hx hb dX6_isOdd_51 rfl (lv_at hl 2 rfl) ?_
    refine gf_X6_12 S hK hP h0 dX6_isOdd_52 hf (fun x6 hx6 hf => ?_)
    refine gf_X6_148 S hK hP hx6 dX6_isOdd_55 hf (fun x7 hf => ?_)
    refine r_callV (As := [.int x4, .int x2, .int p1, .int x7]) (rest := []) S hK hE hst hP hS hx5 (by decide) rfl (cw_X6_90 ht ⟨Nat.le_of_ble_eq_true rfl, Nat.le_of_ble_eq_true rfl⟩) rfl hl.1 rfl (Nat.le_of_ble_eq_true rfl) dX6_isOdd_58 z2 (fun _ _ h => c_X8_give hG  hx5 h) hf (fun x8 M H locs hP hS bx8 hf => ?_)
    refine r_if_eq (tgt := 68) S dX6_isOdd_61 (by decide) hf (fun hf => ?_) (fun hf => ?_)
    · refine lv_iconst (v := 0) hx hb dX6_isOdd_68 (by decide) ?_
      exact hret _ _ _ _ _ _ dX6_isOdd_69 hP hS rfl hf
    · refine lv_iconst (v := 1) hx hb dX6_isOdd_64 (by decide) ?_
      refine lv_goto (tgt := 69) hx hb dX6_isOdd_65 (by decide) ?_
      exact hret _ _ _ _ _ _ dX6_isOdd_69 hP hS rfl hf
  · refine lv_iload_n hx hb dX6_isOdd_25 rfl (lv_at hl 1 rfl) ?_
    refine lv_aload_n hx hb dX6_isOdd_26 rfl (lv_at hl 2 rfl) ?_
    refine gf_X6_12 S hK hP h0 dX6_isOdd_27 hf (fun x9 hx9 hf => ?_)
    refine gf_X6_148 S hK hP hx9 dX6_isOdd_30 hf (fun x10 hf => ?_)
    refine lv_iconst (v := 3) hx hb dX6_isOdd_33 (by decide) ?_
    refine lv_idiv hx hb dX6_isOdd_34 (by decide) ?_
    refine r_icmp_le (tgt := 42) S dX6_isOdd_35 (by decide) hf (fun hf => ?_) (fun hf => ?_)
    · refine lv_iconst (v := 0) hx hb dX6_isOdd_42 (by decide) ?_
      exact hret _ _ _ _ _ _ dX6_isOdd_43 hP hS rfl hf
    · refine lv_iconst (v := 1) hx hb dX6_isOdd_38 (by decide) ?_
      refine lv_goto (tgt := 43) hx hb dX6_isOdd_39 (by decide) ?_
      exact hret _ _ _ _ _ _ dX6_isOdd_43 hP hS rfl hf
