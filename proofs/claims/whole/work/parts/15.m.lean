def f_X10_isIn (p0 : Int64) (p2 : Int64) (p4 : Int64) (M : Mem) : Option (Int32 × Mem) :=
  if (lg_cmp p0 p2) < 0 then
    some (0, M)
  else
    if 0 < (lg_cmp p0 p4) then
      some (0, M)
    else
      some (1, M)
def rm_X10_isIn : Room := { frames := 0, cells := 0, slots := 0, locals := 0 }
set_option maxHeartbeats 4000000 in
set_option maxRecDepth 100000 in
theorem c_X10_isIn {l : Launch} {D : va_G} {K : Ks} {ad : Nat → Nat} {A : Nat → Prop} (hG : Gok G2 ad A) {p0 : Int64} {p2 : Int64} {p4 : Int64}  {M : Mem} {r : Int32} {M' : Mem} (hf : f_X10_isIn p0 p2 p4 M = some (r, M')) : Ct l E2 D K G2 ad A yX10_isIn (ws_of yX10_isIn cX10_isIn 6 (some .boolean)) rm_X10_isIn .boolean [.long p0, .long p2, .long p4] M r M' := by
  have hst : Est A E2 := est2
  refine Ct.ofW (by decide) (Nat.le_of_ble_eq_true rfl) ?_
  intro p e s m args below meth c Q H locs ls S hK hE hP hS hl hret
  have hx := S.1
  have hb := S.2.1
  have hown := S.2.2.2.1
  have ht := S.2.2.2.2
  have hl : lv_has ls 6 [(0, .long p0), (2, .long p2), (4, .long p4)] := hl
  unfold f_X10_isIn at hf
  refine lv_lload_n hx hb dX10_isIn_0 rfl (lv_at hl 0 rfl) ?_
  refine lv_lload_n hx hb dX10_isIn_1 rfl (lv_at hl 1 rfl) ?_
  refine W.lcmp hx hb dX10_isIn_2 ?_
  refine r_if_lt (tgt := 17) S dX10_isIn_3 (by decide) hf (fun hf => ?_) (fun hf => ?_)
  · refine lv_iconst (v := 0) hx hb dX10_isIn_17 (by decide) ?_
    exact hret _ _ _ _ _ _ dX10_isIn_18 hP hS rfl hf
  · refine lv_lload_n hx hb dX10_isIn_6 rfl (lv_at hl 0 rfl) ?_
    refine lv_lload hx hb dX10_isIn_7 (lv_at hl 2 rfl) ?_
    refine W.lcmp hx hb dX10_isIn_9 ?_
    refine r_if_gt (tgt := 17) S dX10_isIn_10 (by decide) hf (fun hf => ?_) (fun hf => ?_)
    · refine lv_iconst (v := 0) hx hb dX10_isIn_17 (by decide) ?_
      exact hret _ _ _ _ _ _ dX10_isIn_18 hP hS rfl hf
    · refine lv_iconst (v := 1) hx hb dX10_isIn_13 (by decide) ?_
      refine lv_goto (tgt := 18) hx hb dX10_isIn_14 (by decide) ?_
      exact hret _ _ _ _ _ _ dX10_isIn_18 hP hS rfl hf
def f_X10_orNone (p0 : Int32) (M : Mem) : Option (Int32 × Mem) :=
  if p0 < 0 then
    some ((-1000000005), M)
  else
    some (p0, M)
def rm_X10_orNone : Room := { frames := 0, cells := 0, slots := 0, locals := 0 }
set_option maxHeartbeats 4000000 in
set_option maxRecDepth 100000 in
theorem c_X10_orNone {l : Launch} {D : va_G} {K : Ks} {ad : Nat → Nat} {A : Nat → Prop} (hG : Gok G2 ad A) {p0 : Int32}  {M : Mem} {r : Int32} {M' : Mem} (hf : f_X10_orNone p0 M = some (r, M')) : Ct l E2 D K G2 ad A yX10_orNone (ws_of yX10_orNone cX10_orNone 1 (some .int)) rm_X10_orNone .int [.int p0] M r M' := by
  have hst : Est A E2 := est2
  refine Ct.ofW (by decide) (Nat.le_of_ble_eq_true rfl) ?_
  intro p e s m args below meth c Q H locs ls S hK hE hP hS hl hret
  have hx := S.1
  have hb := S.2.1
  have hown := S.2.2.2.1
  have ht := S.2.2.2.2
  have hl : lv_has ls 1 [(0, .int p0)] := hl
  unfold f_X10_orNone at hf
  refine lv_iload_n hx hb dX10_orNone_0 rfl (lv_at hl 0 rfl) ?_
  refine r_if_ge (tgt := 9) S dX10_orNone_1 (by decide) hf (fun hf => ?_) (fun hf => ?_)
  · refine lv_iload_n hx hb dX10_orNone_9 rfl (lv_at hl 0 rfl) ?_
    exact hret _ _ _ _ _ _ dX10_orNone_10 hP hS rfl hf
  · refine lv_ldc (v := (-1000000005)) hx hb hown (ht _ k_1268) dX10_orNone_4 ?_
    refine lv_goto (tgt := 10) hx hb dX10_orNone_6 (by decide) ?_
    exact hret _ _ _ _ _ _ dX10_orNone_10 hP hS rfl hf
def f_X10_least (p0 : Int32) (p1 : Int32) (M : Mem) : Option (Int32 × Mem) :=
  if p0 < p1 then
    some (p0, M)
  else
    some (p1, M)
def rm_X10_least : Room := { frames := 0, cells := 0, slots := 0, locals := 0 }
set_option maxHeartbeats 4000000 in
set_option maxRecDepth 100000 in
theorem c_X10_least {l : Launch} {D : va_G} {K : Ks} {ad : Nat → Nat} {A : Nat → Prop} (hG : Gok G2 ad A) {p0 : Int32} {p1 : Int32}  {M : Mem} {r : Int32} {M' : Mem} (hf : f_X10_least p0 p1 M = some (r, M')) : Ct l E2 D K G2 ad A yX10_least (ws_of yX10_least cX10_least 2 (some .int)) rm_X10_least .int [.int p0, .int p1] M r M' := by
  have hst : Est A E2 := est2
  refine Ct.ofW (by decide) (Nat.le_of_ble_eq_true rfl) ?_
  intro p e s m args below meth c Q H locs ls S hK hE hP hS hl hret
  have hx := S.1
  have hb := S.2.1
  have hown := S.2.2.2.1
  have ht := S.2.2.2.2
  have hl : lv_has ls 2 [(0, .int p0), (1, .int p1)] := hl
  unfold f_X10_least at hf
  refine lv_iload_n hx hb dX10_least_0 rfl (lv_at hl 0 rfl) ?_
  refine lv_iload_n hx hb dX10_least_1 rfl (lv_at hl 1 rfl) ?_
  refine r_icmp_ge (tgt := 9) S dX10_least_2 (by decide) hf (fun hf => ?_) (fun hf => ?_)
  · refine lv_iload_n hx hb dX10_least_9 rfl (lv_at hl 1 rfl) ?_
    exact hret _ _ _ _ _ _ dX10_least_10 hP hS rfl hf
  · refine lv_iload_n hx hb dX10_least_5 rfl (lv_at hl 0 rfl) ?_
    refine lv_goto (tgt := 10) hx hb dX10_least_6 (by decide) ?_
    exact hret _ _ _ _ _ _ dX10_least_10 hP hS rfl hf
def f_X10_heldIn (p0 : Int32) (p1 : Int32) (M : Mem) : Option (Int32 × Mem) :=
  if p0 < 0 then
    some (0, M)
  else
    if p1 < p0 then
      some (p1, M)
    else
      some (p0, M)
def rm_X10_heldIn : Room := { frames := 0, cells := 0, slots := 0, locals := 0 }
set_option maxHeartbeats 4000000 in
set_option maxRecDepth 100000 in
theorem c_X10_heldIn {l : Launch} {D : va_G} {K : Ks} {ad : Nat → Nat} {A : Nat → Prop} (hG : Gok G2 ad A) {p0 : Int32} {p1 : Int32}  {M : Mem} {r : Int32} {M' : Mem} (hf : f_X10_heldIn p0 p1 M = some (r, M')) : Ct l E2 D K G2 ad A yX10_heldIn (ws_of yX10_heldIn cX10_heldIn 2 (some .int)) rm_X10_heldIn .int [.int p0, .int p1] M r M' := by
  have hst : Est A E2 := est2
  refine Ct.ofW (by decide) (Nat.le_of_ble_eq_true rfl) ?_
  intro p e s m args below meth c Q H locs ls S hK hE hP hS hl hret
  have hx := S.1
  have hb := S.2.1
  have hown := S.2.2.2.1
  have ht := S.2.2.2.2
  have hl : lv_has ls 2 [(0, .int p0), (1, .int p1)] := hl
  unfold f_X10_heldIn at hf
  refine lv_iload_n hx hb dX10_heldIn_0 rfl (lv_at hl 0 rfl) ?_
  refine r_if_ge (tgt := 8) S dX10_heldIn_1 (by decide) hf (fun hf => ?_) (fun hf => ?_)
  · refine lv_iload_n hx hb dX10_heldIn_8 rfl (lv_at hl 0 rfl) ?_
    refine lv_iload_n hx hb dX10_heldIn_9 rfl (lv_at hl 1 rfl) ?_
    refine r_icmp_le (tgt := 17) S dX10_heldIn_10 (by decide) hf (fun hf => ?_) (fun hf => ?_)
    · refine lv_iload_n hx hb dX10_heldIn_17 rfl (lv_at hl 0 rfl) ?_
      exact hret _ _ _ _ _ _ dX10_heldIn_18 hP hS rfl hf
    · refine lv_iload_n hx hb dX10_heldIn_13 rfl (lv_at hl 1 rfl) ?_
      refine lv_goto (tgt := 18) hx hb dX10_heldIn_14 (by decide) ?_
      exact hret _ _ _ _ _ _ dX10_heldIn_18 hP hS rfl hf
  · refine lv_iconst (v := 0) hx hb dX10_heldIn_4 (by decide) ?_
    refine lv_goto (tgt := 18) hx hb dX10_heldIn_5 (by decide) ?_
    exact hret _ _ _ _ _ _ dX10_heldIn_18 hP hS rfl hf
section
variable {p : Program} {l : Launch} {e : Env} {R : Room} {s : State} {m : MethodId} {args : Array Value} {below : List Frame} {meth : Method} {c : Code} {H : Heap} {locs : List Loc} {cells slots : Nat} {Q : State → Prop} {cc : ByteArray} {pc : Nat} {ls : Array Slot} {rest : List Value} {nL : Nat} {D : va_G} {K : Ks} {ad : Nat → Nat} {A : Nat → Prop} {M : Mem} {β : Type} {z : β}
theorem gf_X10_7 (S : CallFix p m c cc nL s args Tw RX10) (hK : va_K D classes (gty K) s) (hP : va_P D classes (gws K G2 ad M) H) {a : Nat} {kk : Nat → Option β} (ha : gcl G2 a = 10) (hdg : decode cc pc = .ok (.getfield 7, 3)) (hf : vv (grf G2 a 0) kk = some z) (w : ∀ b, gcl G2 b = 20 ∧ gsz G2 b = 3510 → kk b = some z → W p l e R s m args below meth c H locs cells slots Q (F0 m (pc + 3) ls (.ref (ad b) :: rest))) : W p l e R s m args below meth c H locs cells slots Q (F0 m pc ls (.ref (ad a) :: rest)) := r_getr S hK hP (T := TX10) inX10 rfl (by decide) (by decide) ha (sf_X10_0 ha).1 k_1106 hdg hf (fun b e => w b (by rw [e]; exact (sf_X10_0 ha).2))
end
def f_X10_becomes (o : Nat) (p1 : Int32) (p2 : Int32) (M : Mem) : Option (Int32 × Mem) :=
  vv (grf G2 o 0) fun x1 =>
  ld M x1 p1 3510 fun x2 =>
  vv (grf G2 o 0) fun x3 =>
  st M x3 p1 3510 p2 fun M =>
  some (x2, M)
def rm_X10_becomes : Room := { frames := 0, cells := 0, slots := 0, locals := 0 }
set_option maxHeartbeats 4000000 in
set_option maxRecDepth 100000 in
theorem c_X10_becomes {l : Launch} {D : va_G} {K : Ks} {ad : Nat → Nat} {A : Nat → Prop} (hG : Gok G2 ad A) {o : Nat} {p1 : Int32} {p2 : Int32} (h0 : gcl G2 o = 10) {M : Mem} {r : Int32} {M' : Mem} (hf : f_X10_becomes o p1 p2 M = some (r, M')) : Ct l E2 D K G2 ad A yX10_becomes (ws_of yX10_becomes cX10_becomes 4 (some .int)) rm_X10_becomes .int [.ref (ad o), .int p1, .int p2] M r M' := by
  have hst : Est A E2 := est2
  refine Ct.ofW (by decide) (Nat.le_of_ble_eq_true rfl) ?_
  intro p e s m args below meth c Q H locs ls S hK hE hP hS hl hret
  have hx := S.1
  have hb := S.2.1
  have hown := S.2.2.2.1
  have ht := S.2.2.2.2
  have hl : lv_has ls 4 [(0, .ref (ad o)), (1, .int p1), (2, .int p2)] := hl
  unfold f_X10_becomes at hf
  refine lv_aload_n hx hb dX10_becomes_0 rfl (lv_at hl 0 rfl) ?_
  refine gf_X10_7 S hK hP h0 dX10_becomes_1 hf (fun x1 hx1 hf => ?_)
  refine lv_iload_n hx hb dX10_becomes_4 rfl (lv_at hl 1 rfl) ?_
  refine r_iald S hK hP hx1 dX10_becomes_5 hf (fun x2 hf => ?_)
  refine lv_istore_n (lv' := [(3, .int x2), (0, .ref (ad o)), (1, .int p1), (2, .int p2)]) hx hb dX10_becomes_6 rfl hl (by decide) rfl (fun ls hl => ?_)
  refine lv_aload_n hx hb dX10_becomes_7 rfl (lv_at hl 1 rfl) ?_
  refine gf_X10_7 S hK hP h0 dX10_becomes_8 hf (fun x3 hx3 hf => ?_)
  refine lv_iload_n hx hb dX10_becomes_11 rfl (lv_at hl 2 rfl) ?_
  refine lv_iload_n hx hb dX10_becomes_12 rfl (lv_at hl 3 rfl) ?_
  refine r_iast S hK hG hP hS hx3 dX10_becomes_13 hf (fun M H locs hP hS hf => ?_)
  refine lv_iload_n hx hb dX10_becomes_14 rfl (lv_at hl 0 rfl) ?_
  exact hret _ _ _ _ _ _ dX10_becomes_15 hP hS rfl hf
def f_X10_figureAt (o : Nat) (p1 : Int32) (M : Mem) : Option (Int32 × Mem) :=
  some ((30 + (6 * p1)), M)
def rm_X10_figureAt : Room := { frames := 0, cells := 0, slots := 0, locals := 0 }
set_option maxHeartbeats 4000000 in
set_option maxRecDepth 100000 in
theorem c_X10_figureAt {l : Launch} {D : va_G} {K : Ks} {ad : Nat → Nat} {A : Nat → Prop} (hG : Gok G2 ad A) {o : Nat} {p1 : Int32} (h0 : gcl G2 o = 10) {M : Mem} {r : Int32} {M' : Mem} (hf : f_X10_figureAt o p1 M = some (r, M')) : Ct l E2 D K G2 ad A yX10_figureAt (ws_of yX10_figureAt cX10_figureAt 2 (some .int)) rm_X10_figureAt .int [.ref (ad o), .int p1] M r M' := by
  have hst : Est A E2 := est2
  refine Ct.ofW (by decide) (Nat.le_of_ble_eq_true rfl) ?_
  intro p e s m args below meth c Q H locs ls S hK hE hP hS hl hret
  have hx := S.1
  have hb := S.2.1
  have hown := S.2.2.2.1
  have ht := S.2.2.2.2
  have hl : lv_has ls 2 [(0, .ref (ad o)), (1, .int p1)] := hl
  unfold f_X10_figureAt at hf
  refine lv_bipush (v := 30) hx hb dX10_figureAt_0 (by decide) ?_
  refine lv_bipush (v := 6) hx hb dX10_figureAt_2 (by decide) ?_
  refine lv_iload_n hx hb dX10_figureAt_4 rfl (lv_at hl 1 rfl) ?_
  refine lv_imul hx hb dX10_figureAt_5 ?_
  refine lv_iadd hx hb dX10_figureAt_6 ?_
  exact hret _ _ _ _ _ _ dX10_figureAt_7 hP hS rfl hf
def f_X10_lineAt (o : Nat) (p1 : Int32) (M : Mem) : Option (Int32 × Mem) :=
  some ((270 + (13 * p1)), M)
def rm_X10_lineAt : Room := { frames := 0, cells := 0, slots := 0, locals := 0 }
set_option maxHeartbeats 4000000 in
set_option maxRecDepth 100000 in
theorem c_X10_lineAt {l : Launch} {D : va_G} {K : Ks} {ad : Nat → Nat} {A : Nat → Prop} (hG : Gok G2 ad A) {o : Nat} {p1 : Int32} (h0 : gcl G2 o = 10) {M : Mem} {r : Int32} {M' : Mem} (hf : f_X10_lineAt o p1 M = some (r, M')) : Ct l E2 D K G2 ad A yX10_lineAt (ws_of yX10_lineAt cX10_lineAt 2 (some .int)) rm_X10_lineAt .int [.ref (ad o), .int p1] M r M' := by
  have hst : Est A E2 := est2
  refine Ct.ofW (by decide) (Nat.le_of_ble_eq_true rfl) ?_
  intro p e s m args below meth c Q H locs ls S hK hE hP hS hl hret
  have hx := S.1
  have hb := S.2.1
  have hown := S.2.2.2.1
  have ht := S.2.2.2.2
  have hl : lv_has ls 2 [(0, .ref (ad o)), (1, .int p1)] := hl
  unfold f_X10_lineAt at hf
  refine lv_sipush (v := 270) hx hb dX10_lineAt_0 (by decide) ?_
  refine lv_bipush (v := 13) hx hb dX10_lineAt_3 (by decide) ?_
  refine lv_iload_n hx hb dX10_lineAt_5 rfl (lv_at hl 1 rfl) ?_
  refine lv_imul hx hb dX10_lineAt_6 ?_
  refine lv_iadd hx hb dX10_lineAt_7 ?_
  exact hret _ _ _ _ _ _ dX10_lineAt_8 hP hS rfl hf
def f_X10_textAt (o : Nat) (p1 : Int32) (M : Mem) : Option (Int32 × Mem) :=
  some ((500 + (200 * p1)), M)
def rm_X10_textAt : Room := { frames := 0, cells := 0, slots := 0, locals := 0 }
set_option maxHeartbeats 4000000 in
set_option maxRecDepth 100000 in
theorem c_X10_textAt {l : Launch} {D : va_G} {K : Ks} {ad : Nat → Nat} {A : Nat → Prop} (hG : Gok G2 ad A) {o : Nat} {p1 : Int32} (h0 : gcl G2 o = 10) {M : Mem} {r : Int32} {M' : Mem} (hf : f_X10_textAt o p1 M = some (r, M')) : Ct l E2 D K G2 ad A yX10_textAt (ws_of yX10_textAt cX10_textAt 2 (some .int)) rm_X10_textAt .int [.ref (ad o), .int p1] M r M' := by
  have hst : Est A E2 := est2
  refine Ct.ofW (by decide) (Nat.le_of_ble_eq_true rfl) ?_
  intro p e s m args below meth c Q H locs ls S hK hE hP hS hl hret
  have hx := S.1
  have hb := S.2.1
  have hown := S.2.2.2.1
  have ht := S.2.2.2.2
  have hl : lv_has ls 2 [(0, .ref (ad o)), (1, .int p1)] := hl
  unfold f_X10_textAt at hf
  refine lv_sipush (v := 500) hx hb dX10_textAt_0 (by decide) ?_
  refine lv_sipush (v := 200) hx hb dX10_textAt_3 (by decide) ?_
  refine lv_iload_n hx hb dX10_textAt_6 rfl (lv_at hl 1 rfl) ?_
  refine lv_imul hx hb dX10_textAt_7 ?_
  refine lv_iadd hx hb dX10_textAt_8 ?_
  exact hret _ _ _ _ _ _ dX10_textAt_9 hP hS rfl hf
theorem cw_X10_74 {R : Room} {s : State} {args : Array Value} (ht : ∀ w ∈ Tw, w.before args s = true) (hR : rm_X10_isIn.frames + 1 ≤ R.frames ∧ 8 + (6 + 11) + rm_X10_isIn.locals ≤ R.locals) : CallB R s args RX10 74 yX10_isIn cX10_isIn 6 (some .boolean) (ws_of yX10_isIn cX10_isIn 6 (some .boolean)) rm_X10_isIn 0 0 3 ∧ (Cond.static yX10_isIn).before args s = true := cw_S 3 ht k_1229 k_1230 k_73 k_1231 (by decide +kernel) rfl rfl hR
def f_X10_isTable (o : Nat) (p1 : Int32) (M : Mem) : Option (Int32 × Mem) :=
  vv (grf G2 o 0) fun x1 =>
  ld M x1 0 3510 fun x2 =>
  bd (f_X10_isIn (Int32.toInt64 p1) 0 (Int32.toInt64 (x2 - 1)) M) fun x3 M =>
  some (x3, M)
def rm_X10_isTable : Room := { frames := 1, cells := 0, slots := 0, locals := 25 }
set_option maxHeartbeats 4000000 in
set_option maxRecDepth 100000 in
theorem c_X10_isTable {l : Launch} {D : va_G} {K : Ks} {ad : Nat → Nat} {A : Nat → Prop} (hG : Gok G2 ad A) {o : Nat} {p1 : Int32} (h0 : gcl G2 o = 10) {M : Mem} {r : Int32} {M' : Mem} (hf : f_X10_isTable o p1 M = some (r, M')) : Ct l E2 D K G2 ad A yX10_isTable (ws_of yX10_isTable cX10_isTable 2 (some .boolean)) rm_X10_isTable .boolean [.ref (ad o), .int p1] M r M' := by
  have hst : Est A E2 := est2
  refine Ct.ofW (by decide) (Nat.le_of_ble_eq_true rfl) ?_
  intro p e s m args below meth c Q H locs ls S hK hE hP hS hl hret
  have hx := S.1
  have hb := S.2.1
  have hown := S.2.2.2.1
  have ht := S.2.2.2.2
  have hl : lv_has ls 2 [(0, .ref (ad o)), (1, .int p1)] := hl
  unfold f_X10_isTable at hf
  refine lv_iload_n hx hb dX10_isTable_0 rfl (lv_at hl 1 rfl) ?_
  refine lv_i2l (v := (Int32.toInt64 p1)) hx hb dX10_isTable_1 rfl ?_
  refine lv_lconst (v := 0) hx hb dX10_isTable_2 (by decide) ?_
  refine lv_aload_n hx hb dX10_isTable_3 rfl (lv_at hl 0 rfl) ?_
  refine gf_X10_7 S hK hP h0 dX10_isTable_4 hf (fun x1 hx1 hf => ?_)
  refine lv_iconst (v := 0) hx hb dX10_isTable_7 (by decide) ?_
  refine r_iald S hK hP hx1 dX10_isTable_8 hf (fun x2 hf => ?_)
  refine lv_iconst (v := 1) hx hb dX10_isTable_9 (by decide) ?_
  refine lv_isub hx hb dX10_isTable_10 ?_
  refine lv_i2l (v := (Int32.toInt64 (x2 - 1))) hx hb dX10_isTable_11 rfl ?_
  refine r_callS (As := [.long (Int32.toInt64 p1), .long 0, .long (Int32.toInt64 (x2 - 1))]) (rest := []) S hK hE hst hP hS (cw_X10_74 ht ⟨Nat.le_of_ble_eq_true rfl, Nat.le_of_ble_eq_true rfl⟩) rfl hl.1 rfl (Nat.le_of_ble_eq_true rfl) dX10_isTable_12 z2 (fun _ _ h => c_X10_isIn hG  h) hf (fun x3 M H locs hP hS bx3 hf => ?_)
  exact hret _ _ _ _ _ _ dX10_isTable_15 hP hS bx3 hf
def f_X10_isFigure (o : Nat) (p1 : Int32) (M : Mem) : Option (Int32 × Mem) :=
  vv (grf G2 o 0) fun x1 =>
  ld M x1 1 3510 fun x2 =>
  bd (f_X10_isIn (Int32.toInt64 p1) 0 (Int32.toInt64 (x2 - 1)) M) fun x3 M =>
  some (x3, M)
def rm_X10_isFigure : Room := { frames := 1, cells := 0, slots := 0, locals := 25 }
set_option maxHeartbeats 4000000 in
set_option maxRecDepth 100000 in
theorem c_X10_isFigure {l : Launch} {D : va_G} {K : Ks} {ad : Nat → Nat} {A : Nat → Prop} (hG : Gok G2 ad A) {o : Nat} {p1 : Int32} (h0 : gcl G2 o = 10) {M : Mem} {r : Int32} {M' : Mem} (hf : f_X10_isFigure o p1 M = some (r, M')) : Ct l E2 D K G2 ad A yX10_isFigure (ws_of yX10_isFigure cX10_isFigure 2 (some .boolean)) rm_X10_isFigure .boolean [.ref (ad o), .int p1] M r M' := by
  have hst : Est A E2 := est2
  refine Ct.ofW (by decide) (Nat.le_of_ble_eq_true rfl) ?_
  intro p e s m args below meth c Q H locs ls S hK hE hP hS hl hret
  have hx := S.1
  have hb := S.2.1
  have hown := S.2.2.2.1
  have ht := S.2.2.2.2
  have hl : lv_has ls 2 [(0, .ref (ad o)), (1, .int p1)] := hl
  unfold f_X10_isFigure at hf
  refine lv_iload_n hx hb dX10_isFigure_0 rfl (lv_at hl 1 rfl) ?_
  refine lv_i2l (v := (Int32.toInt64 p1)) hx hb dX10_isFigure_1 rfl ?_
  refine lv_lconst (v := 0) hx hb dX10_isFigure_2 (by decide) ?_
  refine lv_aload_n hx hb dX10_isFigure_3 rfl (lv_at hl 0 rfl) ?_
  refine gf_X10_7 S hK hP h0 dX10_isFigure_4 hf (fun x1 hx1 hf => ?_)
  refine lv_iconst (v := 1) hx hb dX10_isFigure_7 (by decide) ?_
  refine r_iald S hK hP hx1 dX10_isFigure_8 hf (fun x2 hf => ?_)
  refine lv_iconst (v := 1) hx hb dX10_isFigure_9 (by decide) ?_
  refine lv_isub hx hb dX10_isFigure_10 ?_
  refine lv_i2l (v := (Int32.toInt64 (x2 - 1))) hx hb dX10_isFigure_11 rfl ?_
  refine r_callS (As := [.long (Int32.toInt64 p1), .long 0, .long (Int32.toInt64 (x2 - 1))]) (rest := []) S hK hE hst hP hS (cw_X10_74 ht ⟨Nat.le_of_ble_eq_true rfl, Nat.le_of_ble_eq_true rfl⟩) rfl hl.1 rfl (Nat.le_of_ble_eq_true rfl) dX10_isFigure_12 z2 (fun _ _ h => c_X10_isIn hG  h) hf (fun x3 M H locs hP hS bx3 hf => ?_)
  exact hret _ _ _ _ _ _ dX10_isFigure_15 hP hS bx3 hf
def f_X10_isText (o : Nat) (p1 : Int32) (M : Mem) : Option (Int32 × Mem) :=
  vv (grf G2 o 0) fun x1 =>
  ld M x1 2 3510 fun x2 =>
  bd (f_X10_isIn (Int32.toInt64 p1) 0 (Int32.toInt64 (x2 - 1)) M) fun x3 M =>
  some (x3, M)
def rm_X10_isText : Room := { frames := 1, cells := 0, slots := 0, locals := 25 }
set_option maxHeartbeats 4000000 in
set_option maxRecDepth 100000 in
theorem c_X10_isText {l : Launch} {D : va_G} {K : Ks} {ad : Nat → Nat} {A : Nat → Prop} (hG : Gok G2 ad A) {o : Nat} {p1 : Int32} (h0 : gcl G2 o = 10) {M : Mem} {r : Int32} {M' : Mem} (hf : f_X10_isText o p1 M = some (r, M')) : Ct l E2 D K G2 ad A yX10_isText (ws_of yX10_isText cX10_isText 2 (some .boolean)) rm_X10_isText .boolean [.ref (ad o), .int p1] M r M' := by
  have hst : Est A E2 := est2
  refine Ct.ofW (by decide) (Nat.le_of_ble_eq_true rfl) ?_
  intro p e s m args below meth c Q H locs ls S hK hE hP hS hl hret
  have hx := S.1
  have hb := S.2.1
  have hown := S.2.2.2.1
  have ht := S.2.2.2.2
  have hl : lv_has ls 2 [(0, .ref (ad o)), (1, .int p1)] := hl
  unfold f_X10_isText at hf
  refine lv_iload_n hx hb dX10_isText_0 rfl (lv_at hl 1 rfl) ?_
  refine lv_i2l (v := (Int32.toInt64 p1)) hx hb dX10_isText_1 rfl ?_
  refine lv_lconst (v := 0) hx hb dX10_isText_2 (by decide) ?_
  refine lv_aload_n hx hb dX10_isText_3 rfl (lv_at hl 0 rfl) ?_
  refine gf_X10_7 S hK hP h0 dX10_isText_4 hf (fun x1 hx1 hf => ?_)
  refine lv_iconst (v := 2) hx hb dX10_isText_7 (by decide) ?_
  refine r_iald S hK hP hx1 dX10_isText_8 hf (fun x2 hf => ?_)
  refine lv_iconst (v := 1) hx hb dX10_isText_9 (by decide) ?_
  refine lv_isub hx hb dX10_isText_10 ?_
  refine lv_i2l (v := (Int32.toInt64 (x2 - 1))) hx hb dX10_isText_11 rfl ?_
  refine r_callS (As := [.long (Int32.toInt64 p1), .long 0, .long (Int32.toInt64 (x2 - 1))]) (rest := []) S hK hE hst hP hS (cw_X10_74 ht ⟨Nat.le_of_ble_eq_true rfl, Nat.le_of_ble_eq_true rfl⟩) rfl hl.1 rfl (Nat.le_of_ble_eq_true rfl) dX10_isText_12 z2 (fun _ _ h => c_X10_isIn hG  h) hf (fun x3 M H locs hP hS bx3 hf => ?_)
  exact hret _ _ _ _ _ _ dX10_isText_15 hP hS bx3 hf
def f_X10_isPlaces (p0 : Int32) (M : Mem) : Option (Int32 × Mem) :=
  bd (f_X10_isIn (Int32.toInt64 p0) 1 4 M) fun x1 M =>
  some (x1, M)
def rm_X10_isPlaces : Room := { frames := 1, cells := 0, slots := 0, locals := 25 }
set_option maxHeartbeats 4000000 in
set_option maxRecDepth 100000 in
theorem c_X10_isPlaces {l : Launch} {D : va_G} {K : Ks} {ad : Nat → Nat} {A : Nat → Prop} (hG : Gok G2 ad A) {p0 : Int32}  {M : Mem} {r : Int32} {M' : Mem} (hf : f_X10_isPlaces p0 M = some (r, M')) : Ct l E2 D K G2 ad A yX10_isPlaces (ws_of yX10_isPlaces cX10_isPlaces 1 (some .boolean)) rm_X10_isPlaces .boolean [.int p0] M r M' := by
  have hst : Est A E2 := est2
  refine Ct.ofW (by decide) (Nat.le_of_ble_eq_true rfl) ?_
  intro p e s m args below meth c Q H locs ls S hK hE hP hS hl hret
  have hx := S.1
  have hb := S.2.1
  have hown := S.2.2.2.1
  have ht := S.2.2.2.2
  have hl : lv_has ls 1 [(0, .int p0)] := hl
  unfold f_X10_isPlaces at hf
  refine lv_iload_n hx hb dX10_isPlaces_0 rfl (lv_at hl 0 rfl) ?_
  refine lv_i2l (v := (Int32.toInt64 p0)) hx hb dX10_isPlaces_1 rfl ?_
  refine lv_lconst (v := 1) hx hb dX10_isPlaces_2 (by decide) ?_
  refine lv_ldc2 (v := 4) hx hb hown (ht _ k_1448) dX10_isPlaces_3 ?_
  refine r_callS (As := [.long (Int32.toInt64 p0), .long 1, .long 4]) (rest := []) S hK hE hst hP hS (cw_X10_74 ht ⟨Nat.le_of_ble_eq_true rfl, Nat.le_of_ble_eq_true rfl⟩) rfl hl.1 rfl (Nat.le_of_ble_eq_true rfl) dX10_isPlaces_6 z2 (fun _ _ h => c_X10_isIn hG  h) hf (fun x1 M H locs hP hS bx1 hf => ?_)
  exact hret _ _ _ _ _ _ dX10_isPlaces_9 hP hS bx1 hf
def f_X10_isPairs (p0 : Int32) (M : Mem) : Option (Int32 × Mem) :=
  bd (f_X10_isIn (Int32.toInt64 p0) 1 999 M) fun x1 M =>
  some (x1, M)
def rm_X10_isPairs : Room := { frames := 1, cells := 0, slots := 0, locals := 25 }
set_option maxHeartbeats 4000000 in
set_option maxRecDepth 100000 in
theorem c_X10_isPairs {l : Launch} {D : va_G} {K : Ks} {ad : Nat → Nat} {A : Nat → Prop} (hG : Gok G2 ad A) {p0 : Int32}  {M : Mem} {r : Int32} {M' : Mem} (hf : f_X10_isPairs p0 M = some (r, M')) : Ct l E2 D K G2 ad A yX10_isPairs (ws_of yX10_isPairs cX10_isPairs 1 (some .boolean)) rm_X10_isPairs .boolean [.int p0] M r M' := by
  have hst : Est A E2 := est2
  refine Ct.ofW (by decide) (Nat.le_of_ble_eq_true rfl) ?_
  intro p e s m args below meth c Q H locs ls S hK hE hP hS hl hret
  have hx := S.1
  have hb := S.2.1
  have hown := S.2.2.2.1
  have ht := S.2.2.2.2
  have hl : lv_has ls 1 [(0, .int p0)] := hl
  unfold f_X10_isPairs at hf
  refine lv_iload_n hx hb dX10_isPairs_0 rfl (lv_at hl 0 rfl) ?_
  refine lv_i2l (v := (Int32.toInt64 p0)) hx hb dX10_isPairs_1 rfl ?_
  refine lv_lconst (v := 1) hx hb dX10_isPairs_2 (by decide) ?_
  refine lv_ldc2 (v := 999) hx hb hown (ht _ k_1248) dX10_isPairs_3 ?_
  refine r_callS (As := [.long (Int32.toInt64 p0), .long 1, .long 999]) (rest := []) S hK hE hst hP hS (cw_X10_74 ht ⟨Nat.le_of_ble_eq_true rfl, Nat.le_of_ble_eq_true rfl⟩) rfl hl.1 rfl (Nat.le_of_ble_eq_true rfl) dX10_isPairs_6 z2 (fun _ _ h => c_X10_isIn hG  h) hf (fun x1 M H locs hP hS bx1 hf => ?_)
  exact hret _ _ _ _ _ _ dX10_isPairs_9 hP hS bx1 hf
def f_X10_table (o : Nat) (p1 : Int32) (M : Mem) : Option (Int32 × Mem) :=
  bd (f_X10_isIn (Int32.toInt64 p1) 0 59 M) fun x1 M =>
  if x1 = 0 then
    some ((-1000000001), M)
  else
    vv (grf G2 o 0) fun x2 =>
    ld M x2 0 3510 fun x3 =>
    jn (fun (M : Mem) =>
      vv (grf G2 o 0) fun x5 =>
      ld M x5 0 3510 fun x6 =>
      if x6 = 12 then
        some ((-1000000003), M)
      else
        vv (grf G2 o 0) fun x7 =>
        vv (grf G2 o 0) fun x8 =>
        ld M x8 0 3510 fun x9 =>
        st M x7 (10 + x9) 3510 p1 fun M =>
        vv (grf G2 o 0) fun x10 =>
        ld M x10 0 3510 fun x11 =>
        st M x10 0 3510 (x11 + 1) fun M =>
        vv (grf G2 o 0) fun x12 =>
        ld M x12 0 3510 fun x13 =>
        some ((x13 - 1), M)
    ) fun k4 =>
    if 0 < x3 then
      vv (grf G2 o 0) fun x14 =>
      vv (grf G2 o 0) fun x15 =>
      ld M x15 0 3510 fun x16 =>
      ld M x14 ((10 + x16) - 1) 3510 fun x17 =>
      if p1 < x17 then
        some ((-1000000002), M)
      else
        k4 M
    else
      k4 M
def rm_X10_table : Room := { frames := 1, cells := 0, slots := 0, locals := 25 }
set_option maxHeartbeats 4000000 in
set_option maxRecDepth 100000 in
theorem c_X10_table {l : Launch} {D : va_G} {K : Ks} {ad : Nat → Nat} {A : Nat → Prop} (hG : Gok G2 ad A) {o : Nat} {p1 : Int32} (h0 : gcl G2 o = 10) {M : Mem} {r : Int32} {M' : Mem} (hf : f_X10_table o p1 M = some (r, M')) : Ct l E2 D K G2 ad A yX10_table (ws_of yX10_table cX10_table 2 (some .int)) rm_X10_table .int [.ref (ad o), .int p1] M r M' := by
  have hst : Est A E2 := est2
  refine Ct.ofW (by decide) (Nat.le_of_ble_eq_true rfl) ?_
  intro p e s m args below meth c Q H locs ls S hK hE hP hS hl hret
  have hx := S.1
  have hb := S.2.1
  have hown := S.2.2.2.1
  have ht := S.2.2.2.2
  have hl : lv_has ls 2 [(0, .ref (ad o)), (1, .int p1)] := hl
  unfold f_X10_table at hf
  refine lv_iload_n hx hb dX10_table_0 rfl (lv_at hl 1 rfl) ?_
  refine lv_i2l (v := (Int32.toInt64 p1)) hx hb dX10_table_1 rfl ?_
  refine lv_lconst (v := 0) hx hb dX10_table_2 (by decide) ?_
  refine lv_ldc2 (v := 59) hx hb hown (ht _ k_1228) dX10_table_3 ?_
  refine r_callS (As := [.long (Int32.toInt64 p1), .long 0, .long 59]) (rest := []) S hK hE hst hP hS (cw_X10_74 ht ⟨Nat.le_of_ble_eq_true rfl, Nat.le_of_ble_eq_true rfl⟩) rfl hl.1 rfl (Nat.le_of_ble_eq_true rfl) dX10_table_6 z2 (fun _ _ h => c_X10_isIn hG  h) hf (fun x1 M H locs hP hS bx1 hf => ?_)
  refine r_if_ne (tgt := 15) S dX10_table_9 (by decide) hf (fun hf => ?_) (fun hf => ?_)
  · refine lv_aload_n hx hb dX10_table_15 rfl (lv_at hl 0 rfl) ?_
    refine gf_X10_7 S hK hP h0 dX10_table_16 hf (fun x2 hx2 hf => ?_)
    refine lv_iconst (v := 0) hx hb dX10_table_19 (by decide) ?_
    refine r_iald S hK hP hx2 dX10_table_20 hf (fun x3 hf => ?_)
    obtain ⟨k4, hk4, hf⟩ := jn_w hf
    have J4 : ∀ (M : Mem) (H : Heap) (locs : List Loc) (ls : Array Slot), lv_has ls 2 [(0, .ref (ad o)), (1, .int p1)] → va_P D classes (gws K G2 ad M) H → va_S A s.heap H locs → k4 M = some (r, M') → W p l e rm_X10_table s m args below meth c H locs 0 0 Q (F0 m 47 ls []) := by
      intro M H locs ls hl hP hS hf
      rw [hk4] at hf
      refine lv_aload_n hx hb dX10_table_47 rfl (lv_at hl 0 rfl) ?_
      refine gf_X10_7 S hK hP h0 dX10_table_48 hf (fun x5 hx5 hf => ?_)
      refine lv_iconst (v := 0) hx hb dX10_table_51 (by decide) ?_
      refine r_iald S hK hP hx5 dX10_table_52 hf (fun x6 hf => ?_)
      refine lv_bipush (v := 12) hx hb dX10_table_53 (by decide) ?_
      refine r_icmp_ne (tgt := 61) S dX10_table_55 (by decide) hf (fun hf => ?_) (fun hf => ?_)
      · refine lv_aload_n hx hb dX10_table_61 rfl (lv_at hl 0 rfl) ?_
        refine gf_X10_7 S hK hP h0 dX10_table_62 hf (fun x7 hx7 hf => ?_)
        refine lv_bipush (v := 10) hx hb dX10_table_65 (by decide) ?_
        refine lv_aload_n hx hb dX10_table_67 rfl (lv_at hl 0 rfl) ?_
        refine gf_X10_7 S hK hP h0 dX10_table_68 hf (fun x8 hx8 hf => ?_)
        refine lv_iconst (v := 0) hx hb dX10_table_71 (by decide) ?_
        refine r_iald S hK hP hx8 dX10_table_72 hf (fun x9 hf => ?_)
        refine lv_iadd hx hb dX10_table_73 ?_
        refine lv_iload_n hx hb dX10_table_74 rfl (lv_at hl 1 rfl) ?_
        refine r_iast S hK hG hP hS hx7 dX10_table_75 hf (fun M H locs hP hS hf => ?_)
        refine lv_aload_n hx hb dX10_table_76 rfl (lv_at hl 0 rfl) ?_
        refine gf_X10_7 S hK hP h0 dX10_table_77 hf (fun x10 hx10 hf => ?_)
        refine lv_iconst (v := 0) hx hb dX10_table_80 (by decide) ?_
        refine lv_dup2_11 hx hb dX10_table_81 rfl rfl ?_
        refine r_iald S hK hP hx10 dX10_table_82 hf (fun x11 hf => ?_)
        refine lv_iconst (v := 1) hx hb dX10_table_83 (by decide) ?_
        refine lv_iadd hx hb dX10_table_84 ?_
        refine r_iast S hK hG hP hS hx10 dX10_table_85 hf (fun M H locs hP hS hf => ?_)
        refine lv_aload_n hx hb dX10_table_86 rfl (lv_at hl 0 rfl) ?_
        refine gf_X10_7 S hK hP h0 dX10_table_87 hf (fun x12 hx12 hf => ?_)
        refine lv_iconst (v := 0) hx hb dX10_table_90 (by decide) ?_
        refine r_iald S hK hP hx12 dX10_table_91 hf (fun x13 hf => ?_)
        refine lv_iconst (v := 1) hx hb dX10_table_92 (by decide) ?_
        refine lv_isub hx hb dX10_table_93 ?_
        exact hret _ _ _ _ _ _ dX10_table_94 hP hS rfl hf
      · refine lv_ldc (v := (-1000000003)) hx hb hown (ht _ k_1234) dX10_table_58 ?_
        exact hret _ _ _ _ _ _ dX10_table_60 hP hS rfl hf
    refine r_if_le (tgt := 47) S dX10_table_21 (by decide) hf (fun hf => ?_) (fun hf => ?_)
    · exact J4 M H locs ls (lv_sub hl [0, 1] rfl) hP hS hf
    · refine lv_iload_n hx hb dX10_table_24 rfl (lv_at hl 1 rfl) ?_
      refine lv_aload_n hx hb dX10_table_25 rfl (lv_at hl 0 rfl) ?_
      refine gf_X10_7 S hK hP h0 dX10_table_26 hf (fun x14 hx14 hf => ?_)
      refine lv_bipush (v := 10) hx hb dX10_table_29 (by decide) ?_
      refine lv_aload_n hx hb dX10_table_31 rfl (lv_at hl 0 rfl) ?_
      refine gf_X10_7 S hK hP h0 dX10_table_32 hf (fun x15 hx15 hf => ?_)
      refine lv_iconst (v := 0) hx hb dX10_table_35 (by decide) ?_
      refine r_iald S hK hP hx15 dX10_table_36 hf (fun x16 hf => ?_)
      refine lv_iadd hx hb dX10_table_37 ?_
      refine lv_iconst (v := 1) hx hb dX10_table_38 (by decide) ?_
      refine lv_isub hx hb dX10_table_39 ?_
      refine r_iald S hK hP hx14 dX10_table_40 hf (fun x17 hf => ?_)
      refine r_icmp_ge (tgt := 47) S dX10_table_41 (by decide) hf (fun hf => ?_) (fun hf => ?_)
      · exact J4 M H locs ls (lv_sub hl [0, 1] rfl) hP hS hf
      · refine lv_ldc (v := (-1000000002)) hx hb hown (ht _ k_1233) dX10_table_44 ?_
        exact hret _ _ _ _ _ _ dX10_table_46 hP hS rfl hf
  · refine lv_ldc (v := (-1000000001)) hx hb hown (ht _ k_1232) dX10_table_12 ?_
    exact hret _ _ _ _ _ _ dX10_table_14 hP hS rfl hf
theorem cw_X10_87 {R : Room} {s : State} {args : Array Value} (ht : ∀ w ∈ Tw, w.before args s = true) (hR : rm_X10_figureAt.frames + 1 ≤ R.frames ∧ 8 + (2 + 11) + rm_X10_figureAt.locals ≤ R.locals) : CallW R s args RX10 RX10 87 yX10_figureAt cX10_figureAt 2 (some .int) (ws_of yX10_figureAt cX10_figureAt 2 (some .int)) rm_X10_figureAt 0 0 1 := cw_V 1 ht k_1253 k_1255 k_21 k_73 k_1256 (by decide +kernel) rfl rfl hR
def f_X10_newFigure (o : Nat) (p1 : Int32) (p2 : Int32) (p3 : Int32) (p4 : Int32) (p5 : Int32) (M : Mem) : Option (Int32 × Mem) :=
  vv (grf G2 o 0) fun x1 =>
  ld M x1 1 3510 fun x2 =>
  bd (f_X10_figureAt o x2 M) fun x3 M =>
  vv (grf G2 o 0) fun x4 =>
  st M x4 x3 3510 p1 fun M =>
  vv (grf G2 o 0) fun x5 =>
  st M x5 (x3 + 1) 3510 p2 fun M =>
  vv (grf G2 o 0) fun x6 =>
  st M x6 (x3 + 2) 3510 p3 fun M =>
  vv (grf G2 o 0) fun x7 =>
  st M x7 (x3 + 3) 3510 p4 fun M =>
  vv (grf G2 o 0) fun x8 =>
  st M x8 (x3 + 4) 3510 p5 fun M =>
  vv (grf G2 o 0) fun x9 =>
  st M x9 (x3 + 5) 3510 (-1) fun M =>
  vv (grf G2 o 0) fun x10 =>
  ld M x10 1 3510 fun x11 =>
  st M x10 1 3510 (x11 + 1) fun M =>
  vv (grf G2 o 0) fun x12 =>
  ld M x12 1 3510 fun x13 =>
  some ((x13 - 1), M)
def rm_X10_newFigure : Room := { frames := 1, cells := 0, slots := 0, locals := 21 }
set_option maxHeartbeats 4000000 in
set_option maxRecDepth 100000 in
theorem c_X10_newFigure {l : Launch} {D : va_G} {K : Ks} {ad : Nat → Nat} {A : Nat → Prop} (hG : Gok G2 ad A) {o : Nat} {p1 : Int32} {p2 : Int32} {p3 : Int32} {p4 : Int32} {p5 : Int32} (h0 : gcl G2 o = 10) {M : Mem} {r : Int32} {M' : Mem} (hf : f_X10_newFigure o p1 p2 p3 p4 p5 M = some (r, M')) : Ct l E2 D K G2 ad A yX10_newFigure (ws_of yX10_newFigure cX10_newFigure 7 (some .int)) rm_X10_newFigure .int [.ref (ad o), .int p1, .int p2, .int p3, .int p4, .int p5] M r M' := by
  have hst : Est A E2 := est2
  refine Ct.ofW (by decide) (Nat.le_of_ble_eq_true rfl) ?_
  intro p e s m args below meth c Q H locs ls S hK hE hP hS hl hret
  have hx := S.1
  have hb := S.2.1
  have hown := S.2.2.2.1
  have ht := S.2.2.2.2
  have hl : lv_has ls 7 [(0, .ref (ad o)), (1, .int p1), (2, .int p2), (3, .int p3), (4, .int p4), (5, .int p5)] := hl
  unfold f_X10_newFigure at hf
  refine lv_aload_n hx hb dX10_newFigure_0 rfl (lv_at hl 0 rfl) ?_
  refine lv_aload_n hx hb dX10_newFigure_1 rfl (lv_at hl 0 rfl) ?_
  refine gf_X10_7 S hK hP h0 dX10_newFigure_2 hf (fun x1 hx1 hf => ?_)
  refine lv_iconst (v := 1) hx hb dX10_newFigure_5 (by decide) ?_
  refine r_iald S hK hP hx1 dX10_newFigure_6 hf (fun x2 hf => ?_)
  refine r_callV (As := [.int x2]) (rest := []) S hK hE hst hP hS h0 (by decide) rfl (cw_X10_87 ht ⟨Nat.le_of_ble_eq_true rfl, Nat.le_of_ble_eq_true rfl⟩) rfl hl.1 rfl (Nat.le_of_ble_eq_true rfl) dX10_newFigure_7 z2 (fun _ _ h => c_X10_figureAt hG  h0 h) hf (fun x3 M H locs hP hS bx3 hf => ?_)
  refine lv_istore (lv' := [(6, .int x3), (0, .ref (ad o)), (1, .int p1), (2, .int p2), (3, .int p3), (4, .int p4), (5, .int p5)]) hx hb dX10_newFigure_10 hl (by decide) rfl (fun ls hl => ?_)
  refine lv_aload_n hx hb dX10_newFigure_12 rfl (lv_at hl 1 rfl) ?_
  refine gf_X10_7 S hK hP h0 dX10_newFigure_13 hf (fun x4 hx4 hf => ?_)
  refine lv_iload hx hb dX10_newFigure_16 (lv_at hl 0 rfl) ?_
  refine lv_iload_n hx hb dX10_newFigure_18 rfl (lv_at hl 2 rfl) ?_
  refine r_iast S hK hG hP hS hx4 dX10_newFigure_19 hf (fun M H locs hP hS hf => ?_)
  refine lv_aload_n hx hb dX10_newFigure_20 rfl (lv_at hl 1 rfl) ?_
  refine gf_X10_7 S hK hP h0 dX10_newFigure_21 hf (fun x5 hx5 hf => ?_)
  refine lv_iload hx hb dX10_newFigure_24 (lv_at hl 0 rfl) ?_
  refine lv_iconst (v := 1) hx hb dX10_newFigure_26 (by decide) ?_
  refine lv_iadd hx hb dX10_newFigure_27 ?_
  refine lv_iload_n hx hb dX10_newFigure_28 rfl (lv_at hl 3 rfl) ?_
  refine r_iast S hK hG hP hS hx5 dX10_newFigure_29 hf (fun M H locs hP hS hf => ?_)
  refine lv_aload_n hx hb dX10_newFigure_30 rfl (lv_at hl 1 rfl) ?_
  refine gf_X10_7 S hK hP h0 dX10_newFigure_31 hf (fun x6 hx6 hf => ?_)
  refine lv_iload hx hb dX10_newFigure_34 (lv_at hl 0 rfl) ?_
  refine lv_iconst (v := 2) hx hb dX10_newFigure_36 (by decide) ?_
  refine lv_iadd hx hb dX10_newFigure_37 ?_
  refine lv_iload_n hx hb dX10_newFigure_38 rfl (lv_at hl 4 rfl) ?_
  refine r_iast S hK hG hP hS hx6 dX10_newFigure_39 hf (fun M H locs hP hS hf => ?_)
  refine lv_aload_n hx hb dX10_newFigure_40 rfl (lv_at hl 1 rfl) ?_
  refine gf_X10_7 S hK hP h0 dX10_newFigure_41 hf (fun x7 hx7 hf => ?_)
  refine lv_iload hx hb dX10_newFigure_44 (lv_at hl 0 rfl) ?_
  refine lv_iconst (v := 3) hx hb dX10_newFigure_46 (by decide) ?_
  refine lv_iadd hx hb dX10_newFigure_47 ?_
  refine lv_iload hx hb dX10_newFigure_48 (lv_at hl 5 rfl) ?_
  refine r_iast S hK hG hP hS hx7 dX10_newFigure_50 hf (fun M H locs hP hS hf => ?_)
  refine lv_aload_n hx hb dX10_newFigure_51 rfl (lv_at hl 1 rfl) ?_
  refine gf_X10_7 S hK hP h0 dX10_newFigure_52 hf (fun x8 hx8 hf => ?_)
  refine lv_iload hx hb dX10_newFigure_55 (lv_at hl 0 rfl) ?_
  refine lv_iconst (v := 4) hx hb dX10_newFigure_57 (by decide) ?_
  refine lv_iadd hx hb dX10_newFigure_58 ?_
  refine lv_iload hx hb dX10_newFigure_59 (lv_at hl 6 rfl) ?_
  refine r_iast S hK hG hP hS hx8 dX10_newFigure_61 hf (fun M H locs hP hS hf => ?_)
  refine lv_aload_n hx hb dX10_newFigure_62 rfl (lv_at hl 1 rfl) ?_
  refine gf_X10_7 S hK hP h0 dX10_newFigure_63 hf (fun x9 hx9 hf => ?_)
  refine lv_iload hx hb dX10_newFigure_66 (lv_at hl 0 rfl) ?_
  refine lv_iconst (v := 5) hx hb dX10_newFigure_68 (by decide) ?_
  refine lv_iadd hx hb dX10_newFigure_69 ?_
  refine lv_iconst (v := (-1)) hx hb dX10_newFigure_70 (by decide) ?_
  refine r_iast S hK hG hP hS hx9 dX10_newFigure_71 hf (fun M H locs hP hS hf => ?_)
  refine lv_aload_n hx hb dX10_newFigure_72 rfl (lv_at hl 1 rfl) ?_
  refine gf_X10_7 S hK hP h0 dX10_newFigure_73 hf (fun x10 hx10 hf => ?_)
  refine lv_iconst (v := 1) hx hb dX10_newFigure_76 (by decide) ?_
  refine lv_dup2_11 hx hb dX10_newFigure_77 rfl rfl ?_
  refine r_iald S hK hP hx10 dX10_newFigure_78 hf (fun x11 hf => ?_)
  refine lv_iconst (v := 1) hx hb dX10_newFigure_79 (by decide) ?_
  refine lv_iadd hx hb dX10_newFigure_80 ?_
  refine r_iast S hK hG hP hS hx10 dX10_newFigure_81 hf (fun M H locs hP hS hf => ?_)
  refine lv_aload_n hx hb dX10_newFigure_82 rfl (lv_at hl 1 rfl) ?_
  refine gf_X10_7 S hK hP h0 dX10_newFigure_83 hf (fun x12 hx12 hf => ?_)
  refine lv_iconst (v := 1) hx hb dX10_newFigure_86 (by decide) ?_
  refine r_iald S hK hP hx12 dX10_newFigure_87 hf (fun x13 hf => ?_)
  refine lv_iconst (v := 1) hx hb dX10_newFigure_88 (by decide) ?_
  refine lv_isub hx hb dX10_newFigure_89 ?_
  exact hret _ _ _ _ _ _ dX10_newFigure_90 hP hS rfl hf
theorem cw_X10_102 {R : Room} {s : State} {args : Array Value} (ht : ∀ w ∈ Tw, w.before args s = true) (hR : rm_X10_isFigure.frames + 1 ≤ R.frames ∧ 8 + (2 + 11) + rm_X10_isFigure.locals ≤ R.locals) : CallW R s args RX10 RX10 102 yX10_isFigure cX10_isFigure 2 (some .boolean) (ws_of yX10_isFigure cX10_isFigure 2 (some .boolean)) rm_X10_isFigure 0 0 1 := cw_V 1 ht k_1249 k_1251 k_20 k_73 k_1252 (by decide +kernel) rfl rfl hR
theorem cw_X10_105 {R : Room} {s : State} {args : Array Value} (ht : ∀ w ∈ Tw, w.before args s = true) (hR : rm_X10_newFigure.frames + 1 ≤ R.frames ∧ 8 + (7 + 11) + rm_X10_newFigure.locals ≤ R.locals) : CallW R s args RX10 RX10 105 yX10_newFigure cX10_newFigure 7 (some .int) (ws_of yX10_newFigure cX10_newFigure 7 (some .int)) rm_X10_newFigure 0 0 5 := cw_V 5 ht k_1257 k_1259 k_22 k_73 k_1260 (by decide +kernel) rfl rfl hR
theorem cw_X10_91 {R : Room} {s : State} {args : Array Value} (ht : ∀ w ∈ Tw, w.before args s = true) (hR : rm_X10_isTable.frames + 1 ≤ R.frames ∧ 8 + (2 + 11) + rm_X10_isTable.locals ≤ R.locals) : CallW R s args RX10 RX10 91 yX10_isTable cX10_isTable 2 (some .boolean) (ws_of yX10_isTable cX10_isTable 2 (some .boolean)) rm_X10_isTable 0 0 1 := cw_V 1 ht k_1239 k_1241 k_19 k_73 k_1242 (by decide +kernel) rfl rfl hR
theorem cw_X10_99 {R : Room} {s : State} {args : Array Value} (ht : ∀ w ∈ Tw, w.before args s = true) (hR : rm_X10_isPairs.frames + 1 ≤ R.frames ∧ 8 + (1 + 11) + rm_X10_isPairs.locals ≤ R.locals) : CallB R s args RX10 99 yX10_isPairs cX10_isPairs 1 (some .boolean) (ws_of yX10_isPairs cX10_isPairs 1 (some .boolean)) rm_X10_isPairs 0 0 1 ∧ (Cond.static yX10_isPairs).before args s = true := cw_S 1 ht k_1245 k_1246 k_73 k_1247 (by decide +kernel) rfl rfl hR
def f_X10_figure (o : Nat) (p1 : Int32) (p2 : Int32) (p3 : Int32) (p4 : Int32) (p5 : Int32) (M : Mem) : Option (Int32 × Mem) :=
  bd (f_X10_isTable o p1 M) fun x1 M =>
  if x1 = 0 then
    some ((-1000000001), M)
  else
    bd (f_X10_isIn (Int32.toInt64 p2) 0 7 M) fun x2 M =>
    if x2 = 0 then
      some ((-1000000001), M)
    else
      bd (f_X10_isIn (Int32.toInt64 p3) 0 9999 M) fun x3 M =>
      if x3 = 0 then
        some ((-1000000001), M)
      else
        bd (f_X10_isPairs p4 M) fun x4 M =>
        if x4 = 0 then
          some ((-1000000001), M)
        else
          jn (fun (M : Mem) =>
            vv (grf G2 o 0) fun x6 =>
            ld M x6 1 3510 fun x7 =>
            if x7 = 40 then
              some ((-1000000003), M)
            else
              bd (f_X10_newFigure o p1 p2 p3 p4 p5 M) fun x8 M =>
              some (x8, M)
          ) fun k5 =>
          if p5 = (-1) then
            k5 M
          else
            bd (f_X10_isFigure o p5 M) fun x9 M =>
            if x9 = 0 then
              some ((-1000000001), M)
            else
              vv (grf G2 o 0) fun x10 =>
              bd (f_X10_figureAt o p5 M) fun x11 M =>
              ld M x10 x11 3510 fun x12 =>
              if p1 < x12 then
                some ((-1000000001), M)
              else
                k5 M
def rm_X10_figure : Room := { frames := 2, cells := 0, slots := 0, locals := 47 }
set_option maxHeartbeats 4000000 in
set_option maxRecDepth 100000 in
theorem c_X10_figure {l : Launch} {D : va_G} {K : Ks} {ad : Nat → Nat} {A : Nat → Prop} (hG : Gok G2 ad A) {o : Nat} {p1 : Int32} {p2 : Int32} {p3 : Int32} {p4 : Int32} {p5 : Int32} (h0 : gcl G2 o = 10) {M : Mem} {r : Int32} {M' : Mem} (hf : f_X10_figure o p1 p2 p3 p4 p5 M = some (r, M')) : Ct l E2 D K G2 ad A yX10_figure (ws_of yX10_figure cX10_figure 6 (some .int)) rm_X10_figure .int [.ref (ad o), .int p1, .int p2, .int p3, .int p4, .int p5] M r M' := by
  have hst : Est A E2 := est2
  refine Ct.ofW (by decide) (Nat.le_of_ble_eq_true rfl) ?_
  intro p e s m args below meth c Q H locs ls S hK hE hP hS hl hret
  have hx := S.1
  have hb := S.2.1
  have hown := S.2.2.2.1
  have ht := S.2.2.2.2
  have hl : lv_has ls 6 [(0, .ref (ad o)), (1, .int p1), (2, .int p2), (3, .int p3), (4, .int p4), (5, .int p5)] := hl
  unfold f_X10_figure at hf
  refine lv_aload_n hx hb dX10_figure_0 rfl (lv_at hl 0 rfl) ?_
  refine lv_iload_n hx hb dX10_figure_1 rfl (lv_at hl 1 rfl) ?_
  refine r_callV (As := [.int p1]) (rest := []) S hK hE hst hP hS h0 (by decide) rfl (cw_X10_91 ht ⟨Nat.le_of_ble_eq_true rfl, Nat.le_of_ble_eq_true rfl⟩) rfl hl.1 rfl (Nat.le_of_ble_eq_true rfl) dX10_figure_2 z2 (fun _ _ h => c_X10_isTable hG  h0 h) hf (fun x1 M H locs hP hS bx1 hf => ?_)
  refine r_if_eq (tgt := 40) S dX10_figure_5 (by decide) hf (fun hf => ?_) (fun hf => ?_)
  · refine lv_ldc (v := (-1000000001)) hx hb hown (ht _ k_1232) dX10_figure_40 ?_
    exact hret _ _ _ _ _ _ dX10_figure_42 hP hS rfl hf
  · refine lv_iload_n hx hb dX10_figure_8 rfl (lv_at hl 2 rfl) ?_
    refine lv_i2l (v := (Int32.toInt64 p2)) hx hb dX10_figure_9 rfl ?_
    refine lv_lconst (v := 0) hx hb dX10_figure_10 (by decide) ?_
    refine lv_ldc2 (v := 7) hx hb hown (ht _ k_1243) dX10_figure_11 ?_
    refine r_callS (As := [.long (Int32.toInt64 p2), .long 0, .long 7]) (rest := []) S hK hE hst hP hS (cw_X10_74 ht ⟨Nat.le_of_ble_eq_true rfl, Nat.le_of_ble_eq_true rfl⟩) rfl hl.1 rfl (Nat.le_of_ble_eq_true rfl) dX10_figure_14 z2 (fun _ _ h => c_X10_isIn hG  h) hf (fun x2 M H locs hP hS bx2 hf => ?_)
    refine r_if_eq (tgt := 40) S dX10_figure_17 (by decide) hf (fun hf => ?_) (fun hf => ?_)
    · refine lv_ldc (v := (-1000000001)) hx hb hown (ht _ k_1232) dX10_figure_40 ?_
      exact hret _ _ _ _ _ _ dX10_figure_42 hP hS rfl hf
    · refine lv_iload_n hx hb dX10_figure_20 rfl (lv_at hl 3 rfl) ?_
      refine lv_i2l (v := (Int32.toInt64 p3)) hx hb dX10_figure_21 rfl ?_
      refine lv_lconst (v := 0) hx hb dX10_figure_22 (by decide) ?_
      refine lv_ldc2 (v := 9999) hx hb hown (ht _ k_1244) dX10_figure_23 ?_
      refine r_callS (As := [.long (Int32.toInt64 p3), .long 0, .long 9999]) (rest := []) S hK hE hst hP hS (cw_X10_74 ht ⟨Nat.le_of_ble_eq_true rfl, Nat.le_of_ble_eq_true rfl⟩) rfl hl.1 rfl (Nat.le_of_ble_eq_true rfl) dX10_figure_26 z2 (fun _ _ h => c_X10_isIn hG  h) hf (fun x3 M H locs hP hS bx3 hf => ?_)
      refine r_if_eq (tgt := 40) S dX10_figure_29 (by decide) hf (fun hf => ?_) (fun hf => ?_)
      · refine lv_ldc (v := (-1000000001)) hx hb hown (ht _ k_1232) dX10_figure_40 ?_
        exact hret _ _ _ _ _ _ dX10_figure_42 hP hS rfl hf
      · refine lv_iload hx hb dX10_figure_32 (lv_at hl 4 rfl) ?_
        refine r_callS (As := [.int p4]) (rest := []) S hK hE hst hP hS (cw_X10_99 ht ⟨Nat.le_of_ble_eq_true rfl, Nat.le_of_ble_eq_true rfl⟩) rfl hl.1 rfl (Nat.le_of_ble_eq_true rfl) dX10_figure_34 z2 (fun _ _ h => c_X10_isPairs hG  h) hf (fun x4 M H locs hP hS bx4 hf => ?_)
        refine r_if_ne (tgt := 43) S dX10_figure_37 (by decide) hf (fun hf => ?_) (fun hf => ?_)
        · refine lv_iload hx hb dX10_figure_43 (lv_at hl 5 rfl) ?_
          refine lv_iconst (v := (-1)) hx hb dX10_figure_45 (by decide) ?_
          obtain ⟨k5, hk5, hf⟩ := jn_w hf
          have J5 : ∀ (M : Mem) (H : Heap) (locs : List Loc) (ls : Array Slot), lv_has ls 6 [(0, .ref (ad o)), (1, .int p1), (2, .int p2), (3, .int p3), (4, .int p4), (5, .int p5)] → va_P D classes (gws K G2 ad M) H → va_S A s.heap H locs → k5 M = some (r, M') → W p l e rm_X10_figure s m args below meth c H locs 0 0 Q (F0 m 76 ls []) := by
            intro M H locs ls hl hP hS hf
            rw [hk5] at hf
            refine lv_aload_n hx hb dX10_figure_76 rfl (lv_at hl 0 rfl) ?_
            refine gf_X10_7 S hK hP h0 dX10_figure_77 hf (fun x6 hx6 hf => ?_)
            refine lv_iconst (v := 1) hx hb dX10_figure_80 (by decide) ?_
            refine r_iald S hK hP hx6 dX10_figure_81 hf (fun x7 hf => ?_)
            refine lv_bipush (v := 40) hx hb dX10_figure_82 (by decide) ?_
            refine r_icmp_ne (tgt := 92) S dX10_figure_84 (by decide) hf (fun hf => ?_) (fun hf => ?_)
            · refine lv_aload_n hx hb dX10_figure_92 rfl (lv_at hl 0 rfl) ?_
              refine lv_iload_n hx hb dX10_figure_93 rfl (lv_at hl 1 rfl) ?_
              refine lv_iload_n hx hb dX10_figure_94 rfl (lv_at hl 2 rfl) ?_
              refine lv_iload_n hx hb dX10_figure_95 rfl (lv_at hl 3 rfl) ?_
              refine lv_iload hx hb dX10_figure_96 (lv_at hl 4 rfl) ?_
              refine lv_iload hx hb dX10_figure_98 (lv_at hl 5 rfl) ?_
              refine r_callV (As := [.int p1, .int p2, .int p3, .int p4, .int p5]) (rest := []) S hK hE hst hP hS h0 (by decide) rfl (cw_X10_105 ht ⟨Nat.le_of_ble_eq_true rfl, Nat.le_of_ble_eq_true rfl⟩) rfl hl.1 rfl (Nat.le_of_ble_eq_true rfl) dX10_figure_100 z2 (fun _ _ h => c_X10_newFigure hG  h0 h) hf (fun x8 M H locs hP hS bx8 hf => ?_)
              exact hret _ _ _ _ _ _ dX10_figure_103 hP hS rfl hf
            · refine lv_ldc (v := (-1000000003)) hx hb hown (ht _ k_1234) dX10_figure_87 ?_
              refine lv_goto (tgt := 103) hx hb dX10_figure_89 (by decide) ?_
              exact hret _ _ _ _ _ _ dX10_figure_103 hP hS rfl hf
          refine r_icmp_eq (tgt := 76) S dX10_figure_46 (by decide) hf (fun hf => ?_) (fun hf => ?_)
          · exact J5 M H locs ls (lv_sub hl [0, 1, 2, 3, 4, 5] rfl) hP hS hf
          · refine lv_aload_n hx hb dX10_figure_49 rfl (lv_at hl 0 rfl) ?_
            refine lv_iload hx hb dX10_figure_50 (lv_at hl 5 rfl) ?_
            refine r_callV (As := [.int p5]) (rest := []) S hK hE hst hP hS h0 (by decide) rfl (cw_X10_102 ht ⟨Nat.le_of_ble_eq_true rfl, Nat.le_of_ble_eq_true rfl⟩) rfl hl.1 rfl (Nat.le_of_ble_eq_true rfl) dX10_figure_52 z2 (fun _ _ h => c_X10_isFigure hG  h0 h) hf (fun x9 M H locs hP hS bx9 hf => ?_)
            refine r_if_eq (tgt := 73) S dX10_figure_55 (by decide) hf (fun hf => ?_) (fun hf => ?_)
            · refine lv_ldc (v := (-1000000001)) hx hb hown (ht _ k_1232) dX10_figure_73 ?_
              exact hret _ _ _ _ _ _ dX10_figure_75 hP hS rfl hf
            · refine lv_aload_n hx hb dX10_figure_58 rfl (lv_at hl 0 rfl) ?_
              refine gf_X10_7 S hK hP h0 dX10_figure_59 hf (fun x10 hx10 hf => ?_)
              refine lv_aload_n hx hb dX10_figure_62 rfl (lv_at hl 0 rfl) ?_
              refine lv_iload hx hb dX10_figure_63 (lv_at hl 5 rfl) ?_
              refine r_callV (As := [.int p5]) (rest := [.ref (ad x10)]) S hK hE hst hP hS h0 (by decide) rfl (cw_X10_87 ht ⟨Nat.le_of_ble_eq_true rfl, Nat.le_of_ble_eq_true rfl⟩) rfl hl.1 rfl (Nat.le_of_ble_eq_true rfl) dX10_figure_65 z2 (fun _ _ h => c_X10_figureAt hG  h0 h) hf (fun x11 M H locs hP hS bx11 hf => ?_)
              refine r_iald S hK hP hx10 dX10_figure_68 hf (fun x12 hf => ?_)
              refine lv_iload_n hx hb dX10_figure_69 rfl (lv_at hl 1 rfl) ?_
              refine r_icmp_le (tgt := 76) S dX10_figure_70 (by decide) hf (fun hf => ?_) (fun hf => ?_)
              · exact J5 M H locs ls (lv_sub hl [0, 1, 2, 3, 4, 5] rfl) hP hS hf
              · refine lv_ldc (v := (-1000000001)) hx hb hown (ht _ k_1232) dX10_figure_73 ?_
                exact hret _ _ _ _ _ _ dX10_figure_75 hP hS rfl hf
        · refine lv_ldc (v := (-1000000001)) hx hb hown (ht _ k_1232) dX10_figure_40 ?_
          exact hret _ _ _ _ _ _ dX10_figure_42 hP hS rfl hf
def f_X10_yearOf (o : Nat) (p1 : Int32) (M : Mem) : Option (Int32 × Mem) :=
  vv (grf G2 o 0) fun x1 =>
  vv (grf G2 o 0) fun x2 =>
  bd (f_X10_figureAt o p1 M) fun x3 M =>
  ld M x2 x3 3510 fun x4 =>
  ld M x1 (10 + x4) 3510 fun x5 =>
  some (x5, M)
def rm_X10_yearOf : Room := { frames := 1, cells := 0, slots := 0, locals := 21 }
set_option maxHeartbeats 4000000 in
set_option maxRecDepth 100000 in
theorem c_X10_yearOf {l : Launch} {D : va_G} {K : Ks} {ad : Nat → Nat} {A : Nat → Prop} (hG : Gok G2 ad A) {o : Nat} {p1 : Int32} (h0 : gcl G2 o = 10) {M : Mem} {r : Int32} {M' : Mem} (hf : f_X10_yearOf o p1 M = some (r, M')) : Ct l E2 D K G2 ad A yX10_yearOf (ws_of yX10_yearOf cX10_yearOf 2 (some .int)) rm_X10_yearOf .int [.ref (ad o), .int p1] M r M' := by
  have hst : Est A E2 := est2
  refine Ct.ofW (by decide) (Nat.le_of_ble_eq_true rfl) ?_
  intro p e s m args below meth c Q H locs ls S hK hE hP hS hl hret
  have hx := S.1
  have hb := S.2.1
  have hown := S.2.2.2.1
  have ht := S.2.2.2.2
  have hl : lv_has ls 2 [(0, .ref (ad o)), (1, .int p1)] := hl
  unfold f_X10_yearOf at hf
  refine lv_aload_n hx hb dX10_yearOf_0 rfl (lv_at hl 0 rfl) ?_
  refine gf_X10_7 S hK hP h0 dX10_yearOf_1 hf (fun x1 hx1 hf => ?_)
  refine lv_bipush (v := 10) hx hb dX10_yearOf_4 (by decide) ?_
  refine lv_aload_n hx hb dX10_yearOf_6 rfl (lv_at hl 0 rfl) ?_
  refine gf_X10_7 S hK hP h0 dX10_yearOf_7 hf (fun x2 hx2 hf => ?_)
  refine lv_aload_n hx hb dX10_yearOf_10 rfl (lv_at hl 0 rfl) ?_
  refine lv_iload_n hx hb dX10_yearOf_11 rfl (lv_at hl 1 rfl) ?_
  refine r_callV (As := [.int p1]) (rest := [.ref (ad x2), .int 10, .ref (ad x1)]) S hK hE hst hP hS h0 (by decide) rfl (cw_X10_87 ht ⟨Nat.le_of_ble_eq_true rfl, Nat.le_of_ble_eq_true rfl⟩) rfl hl.1 rfl (Nat.le_of_ble_eq_true rfl) dX10_yearOf_12 z2 (fun _ _ h => c_X10_figureAt hG  h0 h) hf (fun x3 M H locs hP hS bx3 hf => ?_)
  refine r_iald S hK hP hx2 dX10_yearOf_15 hf (fun x4 hf => ?_)
  refine lv_iadd hx hb dX10_yearOf_16 ?_
  refine r_iald S hK hP hx1 dX10_yearOf_17 hf (fun x5 hf => ?_)
  exact hret _ _ _ _ _ _ dX10_yearOf_18 hP hS rfl hf
theorem cw_X10_109 {R : Room} {s : State} {args : Array Value} (ht : ∀ w ∈ Tw, w.before args s = true) (hR : rm_X10_textAt.frames + 1 ≤ R.frames ∧ 8 + (2 + 11) + rm_X10_textAt.locals ≤ R.locals) : CallW R s args RX10 RX10 109 yX10_textAt cX10_textAt 2 (some .int) (ws_of yX10_textAt cX10_textAt 2 (some .int)) rm_X10_textAt 0 0 1 := cw_V 1 ht k_1277 k_1279 k_25 k_73 k_1280 (by decide +kernel) rfl rfl hR
def f_X10_counts (o : Nat) (p1 : Int32) (M : Mem) : Option (Int32 × Mem) :=
  it2 (fun rc3 (v1 : Int32) (v2 : Int32) M =>
    vv (grf G2 o 0) fun x4 =>
    ld M x4 2 3510 fun x5 =>
    if v2 < x5 then
      vv (grf G2 o 0) fun x6 =>
      bd (f_X10_textAt o v2 M) fun x7 M =>
      ld M x6 x7 3510 fun x8 =>
      if x8 = p1 then
        rc3 v2 (v2 + 1) M
      else
        rc3 v1 (v2 + 1) M
    else
      some (v1, M)
  ) fuel (-1) 0 M
def rm_X10_counts : Room := { frames := 1, cells := 0, slots := 0, locals := 21 }
set_option maxHeartbeats 4000000 in
set_option maxRecDepth 100000 in
theorem c_X10_counts {l : Launch} {D : va_G} {K : Ks} {ad : Nat → Nat} {A : Nat → Prop} (hG : Gok G2 ad A) {o : Nat} {p1 : Int32} (h0 : gcl G2 o = 10) {M : Mem} {r : Int32} {M' : Mem} (hf : f_X10_counts o p1 M = some (r, M')) : Ct l E2 D K G2 ad A yX10_counts (ws_of yX10_counts cX10_counts 4 (some .int)) rm_X10_counts .int [.ref (ad o), .int p1] M r M' := by
  have hst : Est A E2 := est2
  refine Ct.ofW (by decide) (Nat.le_of_ble_eq_true rfl) ?_
  intro p e s m args below meth c Q H locs ls S hK hE hP hS hl hret
  have hx := S.1
  have hb := S.2.1
  have hown := S.2.2.2.1
  have ht := S.2.2.2.2
  have hl : lv_has ls 4 [(0, .ref (ad o)), (1, .int p1)] := hl
  unfold f_X10_counts at hf
  refine lv_iconst (v := (-1)) hx hb dX10_counts_0 (by decide) ?_
  refine lv_istore_n (lv' := [(2, .int (-1)), (0, .ref (ad o)), (1, .int p1)]) hx hb dX10_counts_1 rfl hl (by decide) rfl (fun ls hl => ?_)
  refine lv_iconst (v := 0) hx hb dX10_counts_2 (by decide) ?_
  refine lv_istore_n (lv' := [(3, .int 0), (2, .int (-1)), (0, .ref (ad o)), (1, .int p1)]) hx hb dX10_counts_3 rfl hl (by decide) rfl (fun ls hl => ?_)
  obtain ⟨F3, hF3, hf⟩ := it2_g hf
  have L3 : ∀ (n : Nat) (v1 : Int32) (v2 : Int32) (M : Mem) (H : Heap) (locs : List Loc) (ls : Array Slot), lv_has ls 4 [(0, .ref (ad o)), (1, .int p1), (2, .int v1), (3, .int v2)] → va_P D classes (gws K G2 ad M) H → va_S A s.heap H locs → it2 F3 n v1 v2 M = some (r, M') → W p l e rm_X10_counts s m args below meth c H locs 0 0 Q (F0 m 4 ls []) := by
    intro n
    induction n with
    | zero => intro v1 v2 M H locs ls hl hP hS hf; exact nomatch hf
    | succ n ih3 =>
      intro v1 v2 M H locs ls hl hP hS hf
      obtain ⟨rc3, hrc3, hf⟩ := it2_w hf
      rw [← hrc3] at ih3
      rw [hF3] at hf
      refine lv_iload_n hx hb dX10_counts_4 rfl (lv_at hl 3 rfl) ?_
      refine lv_aload_n hx hb dX10_counts_5 rfl (lv_at hl 0 rfl) ?_
      refine gf_X10_7 S hK hP h0 dX10_counts_6 hf (fun x4 hx4 hf => ?_)
      refine lv_iconst (v := 2) hx hb dX10_counts_9 (by decide) ?_
      refine r_iald S hK hP hx4 dX10_counts_10 hf (fun x5 hf => ?_)
      refine r_icmp_ge (tgt := 40) S dX10_counts_11 (by decide) hf (fun hf => ?_) (fun hf => ?_)
      · refine lv_iload_n hx hb dX10_counts_40 rfl (lv_at hl 2 rfl) ?_
        exact hret _ _ _ _ _ _ dX10_counts_41 hP hS rfl hf
      · refine lv_aload_n hx hb dX10_counts_14 rfl (lv_at hl 0 rfl) ?_
        refine gf_X10_7 S hK hP h0 dX10_counts_15 hf (fun x6 hx6 hf => ?_)
        refine lv_aload_n hx hb dX10_counts_18 rfl (lv_at hl 0 rfl) ?_
        refine lv_iload_n hx hb dX10_counts_19 rfl (lv_at hl 3 rfl) ?_
        refine r_callV (As := [.int v2]) (rest := [.ref (ad x6)]) S hK hE hst hP hS h0 (by decide) rfl (cw_X10_109 ht ⟨Nat.le_of_ble_eq_true rfl, Nat.le_of_ble_eq_true rfl⟩) rfl hl.1 rfl (Nat.le_of_ble_eq_true rfl) dX10_counts_20 z2 (fun _ _ h => c_X10_textAt hG  h0 h) hf (fun x7 M H locs hP hS bx7 hf => ?_)
        refine r_iald S hK hP hx6 dX10_counts_23 hf (fun x8 hf => ?_)
        refine lv_iload_n hx hb dX10_counts_24 rfl (lv_at hl 1 rfl) ?_
        refine r_icmp_ne (tgt := 32) S dX10_counts_25 (by decide) hf (fun hf => ?_) (fun hf => ?_)
        · refine lv_iload_n hx hb dX10_counts_32 rfl (lv_at hl 2 rfl) ?_
          refine lv_istore_n (lv' := [(2, .int v1), (0, .ref (ad o)), (1, .int p1), (3, .int v2)]) hx hb dX10_counts_33 rfl hl (by decide) rfl (fun ls hl => ?_)
          refine lv_iinc (v := (v2 + 1)) (lv' := [(3, .int (v2 + 1)), (2, .int v1), (0, .ref (ad o)), (1, .int p1)]) hx hb dX10_counts_34 hl (k := 3) rfl rfl (by decide) rfl (fun ls hl => ?_)
          refine lv_goto (tgt := 4) hx hb dX10_counts_37 (by decide) ?_
          exact ih3 v1 (v2 + 1) M H locs ls (lv_sub hl [2, 3, 1, 0] rfl) hP hS hf
        · refine lv_iload_n hx hb dX10_counts_28 rfl (lv_at hl 3 rfl) ?_
          refine lv_goto (tgt := 33) hx hb dX10_counts_29 (by decide) ?_
          refine lv_istore_n (lv' := [(2, .int v2), (0, .ref (ad o)), (1, .int p1), (3, .int v2)]) hx hb dX10_counts_33 rfl hl (by decide) rfl (fun ls hl => ?_)
          refine lv_iinc (v := (v2 + 1)) (lv' := [(3, .int (v2 + 1)), (2, .int v2), (0, .ref (ad o)), (1, .int p1)]) hx hb dX10_counts_34 hl (k := 3) rfl rfl (by decide) rfl (fun ls hl => ?_)
          refine lv_goto (tgt := 4) hx hb dX10_counts_37 (by decide) ?_
          exact ih3 v2 (v2 + 1) M H locs ls (lv_sub hl [2, 3, 1, 0] rfl) hP hS hf
  exact L3 _ (-1) 0 M H locs ls (lv_sub hl [2, 3, 1, 0] rfl) hP hS hf
def f_X10_joined (p0 : Int32) (p1 : Int32) (p2 : Int32) (M : Mem) : Option (Int32 × Mem) :=
  if p0 = 38 then
    if p1 = 0 then
      some (0, M)
    else
      if p2 = 0 then
        some (0, M)
      else
        some (1, M)
  else
  if p0 = 39 then
    if p1 = 0 then
      if p2 = 0 then
        some (0, M)
      else
        some (1, M)
    else
      some (1, M)
  else
  if p0 = 40 then
    if p1 = 0 then
      if p2 = 0 then
        some (0, M)
      else
        some (1, M)
    else
      some (1, M)
  else
  if p0 = 41 then
    if p1 = 0 then
      if p2 = 0 then
        some (0, M)
      else
        some (1, M)
    else
      some (1, M)
  else
  if p0 = 42 then
    some ((p1 * p2), M)
  else
  if p0 = 43 then
    some ((p1 + p2), M)
  else
  if p0 = 44 then
    if p1 = 0 then
      if p2 = 0 then
        some (0, M)
      else
        some (1, M)
    else
      some (1, M)
  else
  if p0 = 45 then
    some ((p1 - p2), M)
  else
  if p0 = 46 then
    if p1 = 0 then
      if p2 = 0 then
        some (0, M)
      else
        some (1, M)
    else
      some (1, M)
  else
  if p0 = 47 then
    if p2 = 0 then
      some (0, M)
    else
      if p2 = (-1) then
        some ((-p1), M)
      else
        dv p2 <|
        some ((p1 / p2), M)
  else
  if p0 = 48 then
    if p1 = 0 then
      if p2 = 0 then
        some (0, M)
      else
        some (1, M)
    else
      some (1, M)
  else
  if p0 = 49 then
    if p1 = 0 then
      if p2 = 0 then
        some (0, M)
      else
        some (1, M)
    else
      some (1, M)
  else
  if p0 = 50 then
    if p1 = 0 then
      if p2 = 0 then
        some (0, M)
      else
        some (1, M)
    else
      some (1, M)
  else
  if p0 = 51 then
    if p1 = 0 then
      if p2 = 0 then
        some (0, M)
      else
        some (1, M)
    else
      some (1, M)
  else
  if p0 = 52 then
    if p1 = 0 then
      if p2 = 0 then
        some (0, M)
      else
        some (1, M)
    else
      some (1, M)
  else
  if p0 = 53 then
    if p1 = 0 then
      if p2 = 0 then
        some (0, M)
      else
        some (1, M)
    else
      some (1, M)
  else
  if p0 = 54 then
    if p1 = 0 then
      if p2 = 0 then
        some (0, M)
      else
        some (1, M)
    else
      some (1, M)
  else
  if p0 = 55 then
    if p1 = 0 then
      if p2 = 0 then
        some (0, M)
      else
        some (1, M)
    else
      some (1, M)
  else
  if p0 = 56 then
    if p1 = 0 then
      if p2 = 0 then
        some (0, M)
      else
        some (1, M)
    else
      some (1, M)
  else
  if p0 = 57 then
    if p1 = 0 then
      if p2 = 0 then
        some (0, M)
      else
        some (1, M)
    else
      some (1, M)
  else
  if p0 = 58 then
    if p1 = 0 then
      if p2 = 0 then
        some (0, M)
      else
        some (1, M)
    else
      some (1, M)
  else
  if p0 = 59 then
    if p1 = 0 then
      if p2 = 0 then
        some (0, M)
      else
        some (1, M)
    else
      some (1, M)
  else
  if p0 = 60 then
    if p1 < p2 then
      some (1, M)
    else
      some (0, M)
  else
  if p0 = 61 then
    if p1 = p2 then
      some (1, M)
    else
      some (0, M)
  else
  if p0 = 62 then
    if p2 < p1 then
      some (1, M)
    else
      some (0, M)
  else
  if p1 = 0 then
    if p2 = 0 then
      some (0, M)
    else
      some (1, M)
  else
    some (1, M)
def rm_X10_joined : Room := { frames := 0, cells := 0, slots := 0, locals := 0 }
set_option maxHeartbeats 4000000 in
set_option maxRecDepth 100000 in
theorem c_X10_joined {l : Launch} {D : va_G} {K : Ks} {ad : Nat → Nat} {A : Nat → Prop} (hG : Gok G2 ad A) {p0 : Int32} {p1 : Int32} {p2 : Int32}  {M : Mem} {r : Int32} {M' : Mem} (hf : f_X10_joined p0 p1 p2 M = some (r, M')) : Ct l E2 D K G2 ad A yX10_joined (ws_of yX10_joined cX10_joined 3 (some .int)) rm_X10_joined .int [.int p0, .int p1, .int p2] M r M' := by
  have hst : Est A E2 := est2
  refine Ct.ofW (by decide) (Nat.le_of_ble_eq_true rfl) ?_
  intro p e s m args below meth c Q H locs ls S hK hE hP hS hl hret
  have hx := S.1
  have hb := S.2.1
  have hown := S.2.2.2.1
  have ht := S.2.2.2.2
  have hl : lv_has ls 3 [(0, .int p0), (1, .int p1), (2, .int p2)] := hl
  unfold f_X10_joined at hf
  refine lv_iload_n hx hb dX10_joined_0 rfl (lv_at hl 0 rfl) ?_
  refine r_case hf (fun e1 hf => ?_) (fun n2 hf => ?_)
  · refine lv_tableIn (x := p0) (tgt := 183) hx hb dX10_joined_1 (by rw [e1]; decide) (by rw [e1]; decide) (by rw [e1]; rfl) (by decide) ?_
    refine lv_iload_n hx hb dX10_joined_183 rfl (lv_at hl 1 rfl) ?_
    refine r_if_eq (tgt := 195) S dX10_joined_184 (by decide) hf (fun hf => ?_) (fun hf => ?_)
    · refine lv_iconst (v := 0) hx hb dX10_joined_195 (by decide) ?_
      exact hret _ _ _ _ _ _ dX10_joined_196 hP hS rfl hf
    · refine lv_iload_n hx hb dX10_joined_187 rfl (lv_at hl 2 rfl) ?_
      refine r_if_eq (tgt := 195) S dX10_joined_188 (by decide) hf (fun hf => ?_) (fun hf => ?_)
      · refine lv_iconst (v := 0) hx hb dX10_joined_195 (by decide) ?_
        exact hret _ _ _ _ _ _ dX10_joined_196 hP hS rfl hf
      · refine lv_iconst (v := 1) hx hb dX10_joined_191 (by decide) ?_
        refine lv_goto (tgt := 196) hx hb dX10_joined_192 (by decide) ?_
        exact hret _ _ _ _ _ _ dX10_joined_196 hP hS rfl hf
  refine r_case hf (fun e3 hf => ?_) (fun n4 hf => ?_)
  · refine lv_tableIn (x := p0) (tgt := 197) hx hb dX10_joined_1 (by rw [e3]; decide) (by rw [e3]; decide) (by rw [e3]; rfl) (by decide) ?_
    refine lv_iload_n hx hb dX10_joined_197 rfl (lv_at hl 1 rfl) ?_
    refine r_if_ne (tgt := 205) S dX10_joined_198 (by decide) hf (fun hf => ?_) (fun hf => ?_)
    · refine lv_iconst (v := 1) hx hb dX10_joined_205 (by decide) ?_
      refine lv_goto (tgt := 210) hx hb dX10_joined_206 (by decide) ?_
      exact hret _ _ _ _ _ _ dX10_joined_210 hP hS rfl hf
    · refine lv_iload_n hx hb dX10_joined_201 rfl (lv_at hl 2 rfl) ?_
      refine r_if_eq (tgt := 209) S dX10_joined_202 (by decide) hf (fun hf => ?_) (fun hf => ?_)
      · refine lv_iconst (v := 0) hx hb dX10_joined_209 (by decide) ?_
        exact hret _ _ _ _ _ _ dX10_joined_210 hP hS rfl hf
      · refine lv_iconst (v := 1) hx hb dX10_joined_205 (by decide) ?_
        refine lv_goto (tgt := 210) hx hb dX10_joined_206 (by decide) ?_
        exact hret _ _ _ _ _ _ dX10_joined_210 hP hS rfl hf
  refine r_case hf (fun e5 hf => ?_) (fun n6 hf => ?_)
  · refine lv_tableIn (x := p0) (tgt := 197) hx hb dX10_joined_1 (by rw [e5]; decide) (by rw [e5]; decide) (by rw [e5]; rfl) (by decide) ?_
    refine lv_iload_n hx hb dX10_joined_197 rfl (lv_at hl 1 rfl) ?_
    refine r_if_ne (tgt := 205) S dX10_joined_198 (by decide) hf (fun hf => ?_) (fun hf => ?_)
    · refine lv_iconst (v := 1) hx hb dX10_joined_205 (by decide) ?_
      refine lv_goto (tgt := 210) hx hb dX10_joined_206 (by decide) ?_
      exact hret _ _ _ _ _ _ dX10_joined_210 hP hS rfl hf
    · refine lv_iload_n hx hb dX10_joined_201 rfl (lv_at hl 2 rfl) ?_
      refine r_if_eq (tgt := 209) S dX10_joined_202 (by decide) hf (fun hf => ?_) (fun hf => ?_)
      · refine lv_iconst (v := 0) hx hb dX10_joined_209 (by decide) ?_
        exact hret _ _ _ _ _ _ dX10_joined_210 hP hS rfl hf
      · refine lv_iconst (v := 1) hx hb dX10_joined_205 (by decide) ?_
        refine lv_goto (tgt := 210) hx hb dX10_joined_206 (by decide) ?_
        exact hret _ _ _ _ _ _ dX10_joined_210 hP hS rfl hf
  refine r_case hf (fun e7 hf => ?_) (fun n8 hf => ?_)
  · refine lv_tableIn (x := p0) (tgt := 197) hx hb dX10_joined_1 (by rw [e7]; decide) (by rw [e7]; decide) (by rw [e7]; rfl) (by decide) ?_
    refine lv_iload_n hx hb dX10_joined_197 rfl (lv_at hl 1 rfl) ?_
    refine r_if_ne (tgt := 205) S dX10_joined_198 (by decide) hf (fun hf => ?_) (fun hf => ?_)
    · refine lv_iconst (v := 1) hx hb dX10_joined_205 (by decide) ?_
      refine lv_goto (tgt := 210) hx hb dX10_joined_206 (by decide) ?_
      exact hret _ _ _ _ _ _ dX10_joined_210 hP hS rfl hf
    · refine lv_iload_n hx hb dX10_joined_201 rfl (lv_at hl 2 rfl) ?_
      refine r_if_eq (tgt := 209) S dX10_joined_202 (by decide) hf (fun hf => ?_) (fun hf => ?_)
      · refine lv_iconst (v := 0) hx hb dX10_joined_209 (by decide) ?_
        exact hret _ _ _ _ _ _ dX10_joined_210 hP hS rfl hf
      · refine lv_iconst (v := 1) hx hb dX10_joined_205 (by decide) ?_
        refine lv_goto (tgt := 210) hx hb dX10_joined_206 (by decide) ?_
        exact hret _ _ _ _ _ _ dX10_joined_210 hP hS rfl hf
  refine r_case hf (fun e9 hf => ?_) (fun n10 hf => ?_)
  · refine lv_tableIn (x := p0) (tgt := 124) hx hb dX10_joined_1 (by rw [e9]; decide) (by rw [e9]; decide) (by rw [e9]; rfl) (by decide) ?_
    refine lv_iload_n hx hb dX10_joined_124 rfl (lv_at hl 1 rfl) ?_
    refine lv_iload_n hx hb dX10_joined_125 rfl (lv_at hl 2 rfl) ?_
    refine lv_imul hx hb dX10_joined_126 ?_
    exact hret _ _ _ _ _ _ dX10_joined_127 hP hS rfl hf
  refine r_case hf (fun e11 hf => ?_) (fun n12 hf => ?_)
  · refine lv_tableIn (x := p0) (tgt := 116) hx hb dX10_joined_1 (by rw [e11]; decide) (by rw [e11]; decide) (by rw [e11]; rfl) (by decide) ?_
    refine lv_iload_n hx hb dX10_joined_116 rfl (lv_at hl 1 rfl) ?_
    refine lv_iload_n hx hb dX10_joined_117 rfl (lv_at hl 2 rfl) ?_
    refine lv_iadd hx hb dX10_joined_118 ?_
    exact hret _ _ _ _ _ _ dX10_joined_119 hP hS rfl hf
  refine r_case hf (fun e13 hf => ?_) (fun n14 hf => ?_)
  · refine lv_tableIn (x := p0) (tgt := 197) hx hb dX10_joined_1 (by rw [e13]; decide) (by rw [e13]; decide) (by rw [e13]; rfl) (by decide) ?_
    refine lv_iload_n hx hb dX10_joined_197 rfl (lv_at hl 1 rfl) ?_
    refine r_if_ne (tgt := 205) S dX10_joined_198 (by decide) hf (fun hf => ?_) (fun hf => ?_)
    · refine lv_iconst (v := 1) hx hb dX10_joined_205 (by decide) ?_
      refine lv_goto (tgt := 210) hx hb dX10_joined_206 (by decide) ?_
      exact hret _ _ _ _ _ _ dX10_joined_210 hP hS rfl hf
    · refine lv_iload_n hx hb dX10_joined_201 rfl (lv_at hl 2 rfl) ?_
      refine r_if_eq (tgt := 209) S dX10_joined_202 (by decide) hf (fun hf => ?_) (fun hf => ?_)
      · refine lv_iconst (v := 0) hx hb dX10_joined_209 (by decide) ?_
        exact hret _ _ _ _ _ _ dX10_joined_210 hP hS rfl hf
      · refine lv_iconst (v := 1) hx hb dX10_joined_205 (by decide) ?_
        refine lv_goto (tgt := 210) hx hb dX10_joined_206 (by decide) ?_
        exact hret _ _ _ _ _ _ dX10_joined_210 hP hS rfl hf
  refine r_case hf (fun e15 hf => ?_) (fun n16 hf => ?_)
  · refine lv_tableIn (x := p0) (tgt := 120) hx hb dX10_joined_1 (by rw [e15]; decide) (by rw [e15]; decide) (by rw [e15]; rfl) (by decide) ?_
    refine lv_iload_n hx hb dX10_joined_120 rfl (lv_at hl 1 rfl) ?_
    refine lv_iload_n hx hb dX10_joined_121 rfl (lv_at hl 2 rfl) ?_
    refine lv_isub hx hb dX10_joined_122 ?_
    exact hret _ _ _ _ _ _ dX10_joined_123 hP hS rfl hf
  refine r_case hf (fun e17 hf => ?_) (fun n18 hf => ?_)
  · refine lv_tableIn (x := p0) (tgt := 197) hx hb dX10_joined_1 (by rw [e17]; decide) (by rw [e17]; decide) (by rw [e17]; rfl) (by decide) ?_
    refine lv_iload_n hx hb dX10_joined_197 rfl (lv_at hl 1 rfl) ?_
    refine r_if_ne (tgt := 205) S dX10_joined_198 (by decide) hf (fun hf => ?_) (fun hf => ?_)
    · refine lv_iconst (v := 1) hx hb dX10_joined_205 (by decide) ?_
      refine lv_goto (tgt := 210) hx hb dX10_joined_206 (by decide) ?_
      exact hret _ _ _ _ _ _ dX10_joined_210 hP hS rfl hf
    · refine lv_iload_n hx hb dX10_joined_201 rfl (lv_at hl 2 rfl) ?_
      refine r_if_eq (tgt := 209) S dX10_joined_202 (by decide) hf (fun hf => ?_) (fun hf => ?_)
      · refine lv_iconst (v := 0) hx hb dX10_joined_209 (by decide) ?_
        exact hret _ _ _ _ _ _ dX10_joined_210 hP hS rfl hf
      · refine lv_iconst (v := 1) hx hb dX10_joined_205 (by decide) ?_
        refine lv_goto (tgt := 210) hx hb dX10_joined_206 (by decide) ?_
        exact hret _ _ _ _ _ _ dX10_joined_210 hP hS rfl hf
  refine r_case hf (fun e19 hf => ?_) (fun n20 hf => ?_)
  · refine lv_tableIn (x := p0) (tgt := 128) hx hb dX10_joined_1 (by rw [e19]; decide) (by rw [e19]; decide) (by rw [e19]; rfl) (by decide) ?_
    refine lv_iload_n hx hb dX10_joined_128 rfl (lv_at hl 2 rfl) ?_
    refine r_if_ne (tgt := 136) S dX10_joined_129 (by decide) hf (fun hf => ?_) (fun hf => ?_)
    · refine lv_iload_n hx hb dX10_joined_136 rfl (lv_at hl 2 rfl) ?_
      refine lv_iconst (v := (-1)) hx hb dX10_joined_137 (by decide) ?_
      refine r_icmp_ne (tgt := 146) S dX10_joined_138 (by decide) hf (fun hf => ?_) (fun hf => ?_)
      · refine lv_iload_n hx hb dX10_joined_146 rfl (lv_at hl 1 rfl) ?_
        refine lv_iload_n hx hb dX10_joined_147 rfl (lv_at hl 2 rfl) ?_
        refine r_idiv S dX10_joined_148 hf (fun hf => ?_)
        exact hret _ _ _ _ _ _ dX10_joined_149 hP hS rfl hf
      · refine lv_iload_n hx hb dX10_joined_141 rfl (lv_at hl 1 rfl) ?_
        refine lv_ineg hx hb dX10_joined_142 ?_
        refine lv_goto (tgt := 149) hx hb dX10_joined_143 (by decide) ?_
        exact hret _ _ _ _ _ _ dX10_joined_149 hP hS rfl hf
    · refine lv_iconst (v := 0) hx hb dX10_joined_132 (by decide) ?_
      refine lv_goto (tgt := 149) hx hb dX10_joined_133 (by decide) ?_
      exact hret _ _ _ _ _ _ dX10_joined_149 hP hS rfl hf
  refine r_case hf (fun e21 hf => ?_) (fun n22 hf => ?_)
  · refine lv_tableIn (x := p0) (tgt := 197) hx hb dX10_joined_1 (by rw [e21]; decide) (by rw [e21]; decide) (by rw [e21]; rfl) (by decide) ?_
    refine lv_iload_n hx hb dX10_joined_197 rfl (lv_at hl 1 rfl) ?_
    refine r_if_ne (tgt := 205) S dX10_joined_198 (by decide) hf (fun hf => ?_) (fun hf => ?_)
    · refine lv_iconst (v := 1) hx hb dX10_joined_205 (by decide) ?_
      refine lv_goto (tgt := 210) hx hb dX10_joined_206 (by decide) ?_
      exact hret _ _ _ _ _ _ dX10_joined_210 hP hS rfl hf
    · refine lv_iload_n hx hb dX10_joined_201 rfl (lv_at hl 2 rfl) ?_
      refine r_if_eq (tgt := 209) S dX10_joined_202 (by decide) hf (fun hf => ?_) (fun hf => ?_)
      · refine lv_iconst (v := 0) hx hb dX10_joined_209 (by decide) ?_
        exact hret _ _ _ _ _ _ dX10_joined_210 hP hS rfl hf
      · refine lv_iconst (v := 1) hx hb dX10_joined_205 (by decide) ?_
        refine lv_goto (tgt := 210) hx hb dX10_joined_206 (by decide) ?_
        exact hret _ _ _ _ _ _ dX10_joined_210 hP hS rfl hf
  refine r_case hf (fun e23 hf => ?_) (fun n24 hf => ?_)
  · refine lv_tableIn (x := p0) (tgt := 197) hx hb dX10_joined_1 (by rw [e23]; decide) (by rw [e23]; decide) (by rw [e23]; rfl) (by decide) ?_
    refine lv_iload_n hx hb dX10_joined_197 rfl (lv_at hl 1 rfl) ?_
    refine r_if_ne (tgt := 205) S dX10_joined_198 (by decide) hf (fun hf => ?_) (fun hf => ?_)
    · refine lv_iconst (v := 1) hx hb dX10_joined_205 (by decide) ?_
      refine lv_goto (tgt := 210) hx hb dX10_joined_206 (by decide) ?_
      exact hret _ _ _ _ _ _ dX10_joined_210 hP hS rfl hf
    · refine lv_iload_n hx hb dX10_joined_201 rfl (lv_at hl 2 rfl) ?_
      refine r_if_eq (tgt := 209) S dX10_joined_202 (by decide) hf (fun hf => ?_) (fun hf => ?_)
      · refine lv_iconst (v := 0) hx hb dX10_joined_209 (by decide) ?_
        exact hret _ _ _ _ _ _ dX10_joined_210 hP hS rfl hf
      · refine lv_iconst (v := 1) hx hb dX10_joined_205 (by decide) ?_
        refine lv_goto (tgt := 210) hx hb dX10_joined_206 (by decide) ?_
        exact hret _ _ _ _ _ _ dX10_joined_210 hP hS rfl hf
  refine r_case hf (fun e25 hf => ?_) (fun n26 hf => ?_)
  · refine lv_tableIn (x := p0) (tgt := 197) hx hb dX10_joined_1 (by rw [e25]; decide) (by rw [e25]; decide) (by rw [e25]; rfl) (by decide) ?_
    refine lv_iload_n hx hb dX10_joined_197 rfl (lv_at hl 1 rfl) ?_
    refine r_if_ne (tgt := 205) S dX10_joined_198 (by decide) hf (fun hf => ?_) (fun hf => ?_)
    · refine lv_iconst (v := 1) hx hb dX10_joined_205 (by decide) ?_
      refine lv_goto (tgt := 210) hx hb dX10_joined_206 (by decide) ?_
      exact hret _ _ _ _ _ _ dX10_joined_210 hP hS rfl hf
    · refine lv_iload_n hx hb dX10_joined_201 rfl (lv_at hl 2 rfl) ?_
      refine r_if_eq (tgt := 209) S dX10_joined_202 (by decide) hf (fun hf => ?_) (fun hf => ?_)
      · refine lv_iconst (v := 0) hx hb dX10_joined_209 (by decide) ?_
        exact hret _ _ _ _ _ _ dX10_joined_210 hP hS rfl hf
      · refine lv_iconst (v := 1) hx hb dX10_joined_205 (by decide) ?_
        refine lv_goto (tgt := 210) hx hb dX10_joined_206 (by decide) ?_
        exact hret _ _ _ _ _ _ dX10_joined_210 hP hS rfl hf
  refine r_case hf (fun e27 hf => ?_) (fun n28 hf => ?_)
  · refine lv_tableIn (x := p0) (tgt := 197) hx hb dX10_joined_1 (by rw [e27]; decide) (by rw [e27]; decide) (by rw [e27]; rfl) (by decide) ?_
    refine lv_iload_n hx hb dX10_joined_197 rfl (lv_at hl 1 rfl) ?_
    refine r_if_ne (tgt := 205) S dX10_joined_198 (by decide) hf (fun hf => ?_) (fun hf => ?_)
    · refine lv_iconst (v := 1) hx hb dX10_joined_205 (by decide) ?_
      refine lv_goto (tgt := 210) hx hb dX10_joined_206 (by decide) ?_
      exact hret _ _ _ _ _ _ dX10_joined_210 hP hS rfl hf
    · refine lv_iload_n hx hb dX10_joined_201 rfl (lv_at hl 2 rfl) ?_
      refine r_if_eq (tgt := 209) S dX10_joined_202 (by decide) hf (fun hf => ?_) (fun hf => ?_)
      · refine lv_iconst (v := 0) hx hb dX10_joined_209 (by decide) ?_
        exact hret _ _ _ _ _ _ dX10_joined_210 hP hS rfl hf
      · refine lv_iconst (v := 1) hx hb dX10_joined_205 (by decide) ?_
        refine lv_goto (tgt := 210) hx hb dX10_joined_206 (by decide) ?_
        exact hret _ _ _ _ _ _ dX10_joined_210 hP hS rfl hf
  refine r_case hf (fun e29 hf => ?_) (fun n30 hf => ?_)
  · refine lv_tableIn (x := p0) (tgt := 197) hx hb dX10_joined_1 (by rw [e29]; decide) (by rw [e29]; decide) (by rw [e29]; rfl) (by decide) ?_
    refine lv_iload_n hx hb dX10_joined_197 rfl (lv_at hl 1 rfl) ?_
    refine r_if_ne (tgt := 205) S dX10_joined_198 (by decide) hf (fun hf => ?_) (fun hf => ?_)
    · refine lv_iconst (v := 1) hx hb dX10_joined_205 (by decide) ?_
      refine lv_goto (tgt := 210) hx hb dX10_joined_206 (by decide) ?_
      exact hret _ _ _ _ _ _ dX10_joined_210 hP hS rfl hf
    · refine lv_iload_n hx hb dX10_joined_201 rfl (lv_at hl 2 rfl) ?_
      refine r_if_eq (tgt := 209) S dX10_joined_202 (by decide) hf (fun hf => ?_) (fun hf => ?_)
      · refine lv_iconst (v := 0) hx hb dX10_joined_209 (by decide) ?_
        exact hret _ _ _ _ _ _ dX10_joined_210 hP hS rfl hf
      · refine lv_iconst (v := 1) hx hb dX10_joined_205 (by decide) ?_
        refine lv_goto (tgt := 210) hx hb dX10_joined_206 (by decide) ?_
        exact hret _ _ _ _ _ _ dX10_joined_210 hP hS rfl hf
  refine r_case hf (fun e31 hf => ?_) (fun n32 hf => ?_)
  · refine lv_tableIn (x := p0) (tgt := 197) hx hb dX10_joined_1 (by rw [e31]; decide) (by rw [e31]; decide) (by rw [e31]; rfl) (by decide) ?_
    refine lv_iload_n hx hb dX10_joined_197 rfl (lv_at hl 1 rfl) ?_
    refine r_if_ne (tgt := 205) S dX10_joined_198 (by decide) hf (fun hf => ?_) (fun hf => ?_)
    · refine lv_iconst (v := 1) hx hb dX10_joined_205 (by decide) ?_
      refine lv_goto (tgt := 210) hx hb dX10_joined_206 (by decide) ?_
      exact hret _ _ _ _ _ _ dX10_joined_210 hP hS rfl hf
    · refine lv_iload_n hx hb dX10_joined_201 rfl (lv_at hl 2 rfl) ?_
      refine r_if_eq (tgt := 209) S dX10_joined_202 (by decide) hf (fun hf => ?_) (fun hf => ?_)
      · refine lv_iconst (v := 0) hx hb dX10_joined_209 (by decide) ?_
        exact hret _ _ _ _ _ _ dX10_joined_210 hP hS rfl hf
      · refine lv_iconst (v := 1) hx hb dX10_joined_205 (by decide) ?_
        refine lv_goto (tgt := 210) hx hb dX10_joined_206 (by decide) ?_
        exact hret _ _ _ _ _ _ dX10_joined_210 hP hS rfl hf
  refine r_case hf (fun e33 hf => ?_) (fun n34 hf => ?_)
  · refine lv_tableIn (x := p0) (tgt := 197) hx hb dX10_joined_1 (by rw [e33]; decide) (by rw [e33]; decide) (by rw [e33]; rfl) (by decide) ?_
    refine lv_iload_n hx hb dX10_joined_197 rfl (lv_at hl 1 rfl) ?_
    refine r_if_ne (tgt := 205) S dX10_joined_198 (by decide) hf (fun hf => ?_) (fun hf => ?_)
    · refine lv_iconst (v := 1) hx hb dX10_joined_205 (by decide) ?_
      refine lv_goto (tgt := 210) hx hb dX10_joined_206 (by decide) ?_
      exact hret _ _ _ _ _ _ dX10_joined_210 hP hS rfl hf
    · refine lv_iload_n hx hb dX10_joined_201 rfl (lv_at hl 2 rfl) ?_
      refine r_if_eq (tgt := 209) S dX10_joined_202 (by decide) hf (fun hf => ?_) (fun hf => ?_)
      · refine lv_iconst (v := 0) hx hb dX10_joined_209 (by decide) ?_
        exact hret _ _ _ _ _ _ dX10_joined_210 hP hS rfl hf
      · refine lv_iconst (v := 1) hx hb dX10_joined_205 (by decide) ?_
        refine lv_goto (tgt := 210) hx hb dX10_joined_206 (by decide) ?_
        exact hret _ _ _ _ _ _ dX10_joined_210 hP hS rfl hf
  refine r_case hf (fun e35 hf => ?_) (fun n36 hf => ?_)
  · refine lv_tableIn (x := p0) (tgt := 197) hx hb dX10_joined_1 (by rw [e35]; decide) (by rw [e35]; decide) (by rw [e35]; rfl) (by decide) ?_
    refine lv_iload_n hx hb dX10_joined_197 rfl (lv_at hl 1 rfl) ?_
    refine r_if_ne (tgt := 205) S dX10_joined_198 (by decide) hf (fun hf => ?_) (fun hf => ?_)
    · refine lv_iconst (v := 1) hx hb dX10_joined_205 (by decide) ?_
      refine lv_goto (tgt := 210) hx hb dX10_joined_206 (by decide) ?_
      exact hret _ _ _ _ _ _ dX10_joined_210 hP hS rfl hf
    · refine lv_iload_n hx hb dX10_joined_201 rfl (lv_at hl 2 rfl) ?_
      refine r_if_eq (tgt := 209) S dX10_joined_202 (by decide) hf (fun hf => ?_) (fun hf => ?_)
      · refine lv_iconst (v := 0) hx hb dX10_joined_209 (by decide) ?_
        exact hret _ _ _ _ _ _ dX10_joined_210 hP hS rfl hf
      · refine lv_iconst (v := 1) hx hb dX10_joined_205 (by decide) ?_
        refine lv_goto (tgt := 210) hx hb dX10_joined_206 (by decide) ?_
        exact hret _ _ _ _ _ _ dX10_joined_210 hP hS rfl hf
  refine r_case hf (fun e37 hf => ?_) (fun n38 hf => ?_)
  · refine lv_tableIn (x := p0) (tgt := 197) hx hb dX10_joined_1 (by rw [e37]; decide) (by rw [e37]; decide) (by rw [e37]; rfl) (by decide) ?_
    refine lv_iload_n hx hb dX10_joined_197 rfl (lv_at hl 1 rfl) ?_
    refine r_if_ne (tgt := 205) S dX10_joined_198 (by decide) hf (fun hf => ?_) (fun hf => ?_)
    · refine lv_iconst (v := 1) hx hb dX10_joined_205 (by decide) ?_
      refine lv_goto (tgt := 210) hx hb dX10_joined_206 (by decide) ?_
      exact hret _ _ _ _ _ _ dX10_joined_210 hP hS rfl hf
    · refine lv_iload_n hx hb dX10_joined_201 rfl (lv_at hl 2 rfl) ?_
      refine r_if_eq (tgt := 209) S dX10_joined_202 (by decide) hf (fun hf => ?_) (fun hf => ?_)
      · refine lv_iconst (v := 0) hx hb dX10_joined_209 (by decide) ?_
        exact hret _ _ _ _ _ _ dX10_joined_210 hP hS rfl hf
      · refine lv_iconst (v := 1) hx hb dX10_joined_205 (by decide) ?_
        refine lv_goto (tgt := 210) hx hb dX10_joined_206 (by decide) ?_
        exact hret _ _ _ _ _ _ dX10_joined_210 hP hS rfl hf
  refine r_case hf (fun e39 hf => ?_) (fun n40 hf => ?_)
  · refine lv_tableIn (x := p0) (tgt := 197) hx hb dX10_joined_1 (by rw [e39]; decide) (by rw [e39]; decide) (by rw [e39]; rfl) (by decide) ?_
    refine lv_iload_n hx hb dX10_joined_197 rfl (lv_at hl 1 rfl) ?_
    refine r_if_ne (tgt := 205) S dX10_joined_198 (by decide) hf (fun hf => ?_) (fun hf => ?_)
    · refine lv_iconst (v := 1) hx hb dX10_joined_205 (by decide) ?_
      refine lv_goto (tgt := 210) hx hb dX10_joined_206 (by decide) ?_
      exact hret _ _ _ _ _ _ dX10_joined_210 hP hS rfl hf
    · refine lv_iload_n hx hb dX10_joined_201 rfl (lv_at hl 2 rfl) ?_
      refine r_if_eq (tgt := 209) S dX10_joined_202 (by decide) hf (fun hf => ?_) (fun hf => ?_)
      · refine lv_iconst (v := 0) hx hb dX10_joined_209 (by decide) ?_
        exact hret _ _ _ _ _ _ dX10_joined_210 hP hS rfl hf
      · refine lv_iconst (v := 1) hx hb dX10_joined_205 (by decide) ?_
        refine lv_goto (tgt := 210) hx hb dX10_joined_206 (by decide) ?_
        exact hret _ _ _ _ _ _ dX10_joined_210 hP hS rfl hf
  refine r_case hf (fun e41 hf => ?_) (fun n42 hf => ?_)
  · refine lv_tableIn (x := p0) (tgt := 197) hx hb dX10_joined_1 (by rw [e41]; decide) (by rw [e41]; decide) (by rw [e41]; rfl) (by decide) ?_
    refine lv_iload_n hx hb dX10_joined_197 rfl (lv_at hl 1 rfl) ?_
    refine r_if_ne (tgt := 205) S dX10_joined_198 (by decide) hf (fun hf => ?_) (fun hf => ?_)
    · refine lv_iconst (v := 1) hx hb dX10_joined_205 (by decide) ?_
      refine lv_goto (tgt := 210) hx hb dX10_joined_206 (by decide) ?_
      exact hret _ _ _ _ _ _ dX10_joined_210 hP hS rfl hf
    · refine lv_iload_n hx hb dX10_joined_201 rfl (lv_at hl 2 rfl) ?_
      refine r_if_eq (tgt := 209) S dX10_joined_202 (by decide) hf (fun hf => ?_) (fun hf => ?_)
      · refine lv_iconst (v := 0) hx hb dX10_joined_209 (by decide) ?_
        exact hret _ _ _ _ _ _ dX10_joined_210 hP hS rfl hf
      · refine lv_iconst (v := 1) hx hb dX10_joined_205 (by decide) ?_
        refine lv_goto (tgt := 210) hx hb dX10_joined_206 (by decide) ?_
        exact hret _ _ _ _ _ _ dX10_joined_210 hP hS rfl hf
  refine r_case hf (fun e43 hf => ?_) (fun n44 hf => ?_)
  · refine lv_tableIn (x := p0) (tgt := 197) hx hb dX10_joined_1 (by rw [e43]; decide) (by rw [e43]; decide) (by rw [e43]; rfl) (by decide) ?_
    refine lv_iload_n hx hb dX10_joined_197 rfl (lv_at hl 1 rfl) ?_
    refine r_if_ne (tgt := 205) S dX10_joined_198 (by decide) hf (fun hf => ?_) (fun hf => ?_)
    · refine lv_iconst (v := 1) hx hb dX10_joined_205 (by decide) ?_
      refine lv_goto (tgt := 210) hx hb dX10_joined_206 (by decide) ?_
      exact hret _ _ _ _ _ _ dX10_joined_210 hP hS rfl hf
    · refine lv_iload_n hx hb dX10_joined_201 rfl (lv_at hl 2 rfl) ?_
      refine r_if_eq (tgt := 209) S dX10_joined_202 (by decide) hf (fun hf => ?_) (fun hf => ?_)
      · refine lv_iconst (v := 0) hx hb dX10_joined_209 (by decide) ?_
        exact hret _ _ _ _ _ _ dX10_joined_210 hP hS rfl hf
      · refine lv_iconst (v := 1) hx hb dX10_joined_205 (by decide) ?_
        refine lv_goto (tgt := 210) hx hb dX10_joined_206 (by decide) ?_
        exact hret _ _ _ _ _ _ dX10_joined_210 hP hS rfl hf
  refine r_case hf (fun e45 hf => ?_) (fun n46 hf => ?_)
  · refine lv_tableIn (x := p0) (tgt := 150) hx hb dX10_joined_1 (by rw [e45]; decide) (by rw [e45]; decide) (by rw [e45]; rfl) (by decide) ?_
    refine lv_iload_n hx hb dX10_joined_150 rfl (lv_at hl 1 rfl) ?_
    refine lv_iload_n hx hb dX10_joined_151 rfl (lv_at hl 2 rfl) ?_
    refine r_icmp_ge (tgt := 159) S dX10_joined_152 (by decide) hf (fun hf => ?_) (fun hf => ?_)
    · refine lv_iconst (v := 0) hx hb dX10_joined_159 (by decide) ?_
      exact hret _ _ _ _ _ _ dX10_joined_160 hP hS rfl hf
    · refine lv_iconst (v := 1) hx hb dX10_joined_155 (by decide) ?_
      refine lv_goto (tgt := 160) hx hb dX10_joined_156 (by decide) ?_
      exact hret _ _ _ _ _ _ dX10_joined_160 hP hS rfl hf
  refine r_case hf (fun e47 hf => ?_) (fun n48 hf => ?_)
  · refine lv_tableIn (x := p0) (tgt := 172) hx hb dX10_joined_1 (by rw [e47]; decide) (by rw [e47]; decide) (by rw [e47]; rfl) (by decide) ?_
    refine lv_iload_n hx hb dX10_joined_172 rfl (lv_at hl 1 rfl) ?_
    refine lv_iload_n hx hb dX10_joined_173 rfl (lv_at hl 2 rfl) ?_
    refine r_icmp_ne (tgt := 181) S dX10_joined_174 (by decide) hf (fun hf => ?_) (fun hf => ?_)
    · refine lv_iconst (v := 0) hx hb dX10_joined_181 (by decide) ?_
      exact hret _ _ _ _ _ _ dX10_joined_182 hP hS rfl hf
    · refine lv_iconst (v := 1) hx hb dX10_joined_177 (by decide) ?_
      refine lv_goto (tgt := 182) hx hb dX10_joined_178 (by decide) ?_
      exact hret _ _ _ _ _ _ dX10_joined_182 hP hS rfl hf
  refine r_case hf (fun e49 hf => ?_) (fun n50 hf => ?_)
  · refine lv_tableIn (x := p0) (tgt := 161) hx hb dX10_joined_1 (by rw [e49]; decide) (by rw [e49]; decide) (by rw [e49]; rfl) (by decide) ?_
    refine lv_iload_n hx hb dX10_joined_161 rfl (lv_at hl 1 rfl) ?_
    refine lv_iload_n hx hb dX10_joined_162 rfl (lv_at hl 2 rfl) ?_
    refine r_icmp_le (tgt := 170) S dX10_joined_163 (by decide) hf (fun hf => ?_) (fun hf => ?_)
    · refine lv_iconst (v := 0) hx hb dX10_joined_170 (by decide) ?_
      exact hret _ _ _ _ _ _ dX10_joined_171 hP hS rfl hf
    · refine lv_iconst (v := 1) hx hb dX10_joined_166 (by decide) ?_
      refine lv_goto (tgt := 171) hx hb dX10_joined_167 (by decide) ?_
      exact hret _ _ _ _ _ _ dX10_joined_171 hP hS rfl hf
  refine lv_tableOut (x := p0) (tgt := 197) hx hb dX10_joined_1 (by have q0 := lv_neT (a := 38) n2 (by decide); have q1 := lv_neT (a := 39) n4 (by decide); have q2 := lv_neT (a := 40) n6 (by decide); have q3 := lv_neT (a := 41) n8 (by decide); have q4 := lv_neT (a := 42) n10 (by decide); have q5 := lv_neT (a := 43) n12 (by decide); have q6 := lv_neT (a := 44) n14 (by decide); have q7 := lv_neT (a := 45) n16 (by decide); have q8 := lv_neT (a := 46) n18 (by decide); have q9 := lv_neT (a := 47) n20 (by decide); have q10 := lv_neT (a := 48) n22 (by decide); have q11 := lv_neT (a := 49) n24 (by decide); have q12 := lv_neT (a := 50) n26 (by decide); have q13 := lv_neT (a := 51) n28 (by decide); have q14 := lv_neT (a := 52) n30 (by decide); have q15 := lv_neT (a := 53) n32 (by decide); have q16 := lv_neT (a := 54) n34 (by decide); have q17 := lv_neT (a := 55) n36 (by decide); have q18 := lv_neT (a := 56) n38 (by decide); have q19 := lv_neT (a := 57) n40 (by decide); have q20 := lv_neT (a := 58) n42 (by decide); have q21 := lv_neT (a := 59) n44 (by decide); have q22 := lv_neT (a := 60) n46 (by decide); have q23 := lv_neT (a := 61) n48 (by decide); have q24 := lv_neT (a := 62) n50 (by decide); omega) (by decide) ?_
  refine lv_iload_n hx hb dX10_joined_197 rfl (lv_at hl 1 rfl) ?_
  refine r_if_ne (tgt := 205) S dX10_joined_198 (by decide) hf (fun hf => ?_) (fun hf => ?_)
  · refine lv_iconst (v := 1) hx hb dX10_joined_205 (by decide) ?_
    refine lv_goto (tgt := 210) hx hb dX10_joined_206 (by decide) ?_
    exact hret _ _ _ _ _ _ dX10_joined_210 hP hS rfl hf
  · refine lv_iload_n hx hb dX10_joined_201 rfl (lv_at hl 2 rfl) ?_
    refine r_if_eq (tgt := 209) S dX10_joined_202 (by decide) hf (fun hf => ?_) (fun hf => ?_)
    · refine lv_iconst (v := 0) hx hb dX10_joined_209 (by decide) ?_
      exact hret _ _ _ _ _ _ dX10_joined_210 hP hS rfl hf
    · refine lv_iconst (v := 1) hx hb dX10_joined_205 (by decide) ?_
      refine lv_goto (tgt := 210) hx hb dX10_joined_206 (by decide) ?_
      exact hret _ _ _ _ _ _ dX10_joined_210 hP hS rfl hf
theorem cw_X10_263 {R : Room} {s : State} {args : Array Value} (ht : ∀ w ∈ Tw, w.before args s = true) (hR : rm_X10_joined.frames + 1 ≤ R.frames ∧ 8 + (3 + 11) + rm_X10_joined.locals ≤ R.locals) : CallB R s args RX10 263 yX10_joined cX10_joined 3 (some .int) (ws_of yX10_joined cX10_joined 3 (some .int)) rm_X10_joined 0 0 3 ∧ (Cond.static yX10_joined).before args s = true := cw_S 3 ht k_1297 k_1298 k_73 k_1299 (by decide +kernel) rfl rfl hR
section
variable {p : Program} {l : Launch} {e : Env} {R : Room} {s : State} {m : MethodId} {args : Array Value} {below : List Frame} {meth : Method} {c : Code} {H : Heap} {locs : List Loc} {cells slots : Nat} {Q : State → Prop} {cc : ByteArray} {pc : Nat} {ls : Array Slot} {rest : List Value} {nL : Nat} {D : va_G} {K : Ks} {ad : Nat → Nat} {A : Nat → Prop} {M : Mem} {β : Type} {z : β}
theorem gf_X10_46 (S : CallFix p m c cc nL s args Tw RX10) (hK : va_K D classes (gty K) s) (hP : va_P D classes (gws K G2 ad M) H) {a : Nat} {kk : Nat → Option β} (ha : gcl G2 a = 10) (hdg : decode cc pc = .ok (.getfield 46, 3)) (hf : vv (grf G2 a 24) kk = some z) (w : ∀ b, gcl G2 b = 20 ∧ gsz G2 b = 128 → kk b = some z → W p l e R s m args below meth c H locs cells slots Q (F0 m (pc + 3) ls (.ref (ad b) :: rest))) : W p l e R s m args below meth c H locs cells slots Q (F0 m pc ls (.ref (ad a) :: rest)) := r_getr S hK hP (T := TX10) inX10 rfl (by decide) (by decide) ha (sf_X10_24 ha).1 k_1130 hdg hf (fun b e => w b (by rw [e]; exact (sf_X10_24 ha).2))
end
section
variable {p : Program} {l : Launch} {e : Env} {R : Room} {s : State} {m : MethodId} {args : Array Value} {below : List Frame} {meth : Method} {c : Code} {H : Heap} {locs : List Loc} {cells slots : Nat} {Q : State → Prop} {cc : ByteArray} {pc : Nat} {ls : Array Slot} {rest : List Value} {nL : Nat} {D : va_G} {K : Ks} {ad : Nat → Nat} {A : Nat → Prop} {M : Mem} {β : Type} {z : β}
theorem gf_X10_49 (S : CallFix p m c cc nL s args Tw RX10) (hK : va_K D classes (gty K) s) (hP : va_P D classes (gws K G2 ad M) H) {a : Nat} {kk : Nat → Option β} (ha : gcl G2 a = 10) (hdg : decode cc pc = .ok (.getfield 49, 3)) (hf : vv (grf G2 a 25) kk = some z) (w : ∀ b, gcl G2 b = 20 ∧ gsz G2 b = 100 → kk b = some z → W p l e R s m args below meth c H locs cells slots Q (F0 m (pc + 3) ls (.ref (ad b) :: rest))) : W p l e R s m args below meth c H locs cells slots Q (F0 m pc ls (.ref (ad a) :: rest)) := r_getr S hK hP (T := TX10) inX10 rfl (by decide) (by decide) ha (sf_X10_25 ha).1 k_1131 hdg hf (fun b e => w b (by rw [e]; exact (sf_X10_25 ha).2))
end
def f_X10_worked (o : Nat) (p1 : Int32) (M : Mem) : Option (Int32 × Mem) :=
  it2 (fun rc3 (v1 : Int32) (v2 : Int32) M =>
    vv (grf G2 o 0) fun x4 =>
    bd (f_X10_textAt o p1 M) fun x5 M =>
    ld M x4 (x5 + 2) 3510 fun x6 =>
    if v2 < x6 then
      vv (grf G2 o 0) fun x9 =>
      bd (f_X10_textAt o p1 M) fun x10 M =>
      ld M x9 ((x10 + 4) + (2 * v2)) 3510 fun x11 =>
      vv (grf G2 o 0) fun x12 =>
      bd (f_X10_textAt o p1 M) fun x13 M =>
      ld M x12 (((x13 + 4) + (2 * v2)) + 1) 3510 fun x14 =>
      if x11 = 2 then
        if x14 = 33 then
          vv (grf G2 o 25) fun x21 =>
          vv (grf G2 o 25) fun x22 =>
          ld M x22 (v1 - 1) 100 fun x23 =>
          jn (fun (v24 : Int32) (M : Mem) =>
            st M x21 (v1 - 1) 100 v24 fun M =>
            rc3 v1 (v2 + 1) M
          ) fun k25 =>
          if x23 = 0 then
            k25 1 M
          else
            k25 0 M
        else
          vv (grf G2 o 25) fun x15 =>
          vv (grf G2 o 25) fun x16 =>
          ld M x16 ((v1 + (-1)) - 1) 100 fun x17 =>
          vv (grf G2 o 25) fun x18 =>
          ld M x18 (v1 + (-1)) 100 fun x19 =>
          bd (f_X10_joined x14 x17 x19 M) fun x20 M =>
          st M x15 ((v1 + (-1)) - 1) 100 x20 fun M =>
          rc3 (v1 + (-1)) (v2 + 1) M
      else
        vv (grf G2 o 25) fun x26 =>
        jn (fun (v27 : Int32) (M : Mem) =>
          st M x26 v1 100 v27 fun M =>
          rc3 (v1 + 1) (v2 + 1) M
        ) fun k28 =>
        if x11 = 0 then
          k28 x14 M
        else
          vv (grf G2 o 24) fun x29 =>
          ld M x29 x14 128 fun x30 =>
          k28 x30 M
    else
      vv (grf G2 o 25) fun x7 =>
      ld M x7 0 100 fun x8 =>
      some (x8, M)
  ) fuel 0 0 M
def rm_X10_worked : Room := { frames := 1, cells := 0, slots := 0, locals := 22 }
set_option maxHeartbeats 4000000 in
set_option maxRecDepth 100000 in
theorem c_X10_worked {l : Launch} {D : va_G} {K : Ks} {ad : Nat → Nat} {A : Nat → Prop} (hG : Gok G2 ad A) {o : Nat} {p1 : Int32} (h0 : gcl G2 o = 10) {M : Mem} {r : Int32} {M' : Mem} (hf : f_X10_worked o p1 M = some (r, M')) : Ct l E2 D K G2 ad A yX10_worked (ws_of yX10_worked cX10_worked 6 (some .int)) rm_X10_worked .int [.ref (ad o), .int p1] M r M' := by
  have hst : Est A E2 := est2
  refine Ct.ofW (by decide) (Nat.le_of_ble_eq_true rfl) ?_
  intro p e s m args below meth c Q H locs ls S hK hE hP hS hl hret
  have hx := S.1
  have hb := S.2.1
  have hown := S.2.2.2.1
  have ht := S.2.2.2.2
  have hl : lv_has ls 6 [(0, .ref (ad o)), (1, .int p1)] := hl
  unfold f_X10_worked at hf
  refine lv_iconst (v := 0) hx hb dX10_worked_0 (by decide) ?_
  refine lv_istore_n (lv' := [(2, .int 0), (0, .ref (ad o)), (1, .int p1)]) hx hb dX10_worked_1 rfl hl (by decide) rfl (fun ls hl => ?_)
  refine lv_iconst (v := 0) hx hb dX10_worked_2 (by decide) ?_
  refine lv_istore_n (lv' := [(3, .int 0), (2, .int 0), (0, .ref (ad o)), (1, .int p1)]) hx hb dX10_worked_3 rfl hl (by decide) rfl (fun ls hl => ?_)
  obtain ⟨F3, hF3, hf⟩ := it2_g hf
  have L3 : ∀ (n : Nat) (v1 : Int32) (v2 : Int32) (M : Mem) (H : Heap) (locs : List Loc) (ls : Array Slot), lv_has ls 6 [(0, .ref (ad o)), (1, .int p1), (2, .int v1), (3, .int v2)] → va_P D classes (gws K G2 ad M) H → va_S A s.heap H locs → it2 F3 n v1 v2 M = some (r, M') → W p l e rm_X10_worked s m args below meth c H locs 0 0 Q (F0 m 4 ls []) := by
    intro n
    induction n with
    | zero => intro v1 v2 M H locs ls hl hP hS hf; exact nomatch hf
    | succ n ih3 =>
      intro v1 v2 M H locs ls hl hP hS hf
      obtain ⟨rc3, hrc3, hf⟩ := it2_w hf
      rw [← hrc3] at ih3
      rw [hF3] at hf
      refine lv_iload_n hx hb dX10_worked_4 rfl (lv_at hl 3 rfl) ?_
      refine lv_aload_n hx hb dX10_worked_5 rfl (lv_at hl 0 rfl) ?_
      refine gf_X10_7 S hK hP h0 dX10_worked_6 hf (fun x4 hx4 hf => ?_)
      refine lv_aload_n hx hb dX10_worked_9 rfl (lv_at hl 0 rfl) ?_
      refine lv_iload_n hx hb dX10_worked_10 rfl (lv_at hl 1 rfl) ?_
      refine r_callV (As := [.int p1]) (rest := [.ref (ad x4), .int v2]) S hK hE hst hP hS h0 (by decide) rfl (cw_X10_109 ht ⟨Nat.le_of_ble_eq_true rfl, Nat.le_of_ble_eq_true rfl⟩) rfl hl.1 rfl (Nat.le_of_ble_eq_true rfl) dX10_worked_11 z2 (fun _ _ h => c_X10_textAt hG  h0 h) hf (fun x5 M H locs hP hS bx5 hf => ?_)
      refine lv_iconst (v := 2) hx hb dX10_worked_14 (by decide) ?_
      refine lv_iadd hx hb dX10_worked_15 ?_
      refine r_iald S hK hP hx4 dX10_worked_16 hf (fun x6 hf => ?_)
      refine r_icmp_ge (tgt := 163) S dX10_worked_17 (by decide) hf (fun hf => ?_) (fun hf => ?_)
      · refine lv_aload_n hx hb dX10_worked_163 rfl (lv_at hl 0 rfl) ?_
        refine gf_X10_49 S hK hP h0 dX10_worked_164 hf (fun x7 hx7 hf => ?_)
        refine lv_iconst (v := 0) hx hb dX10_worked_167 (by decide) ?_
        refine r_iald S hK hP hx7 dX10_worked_168 hf (fun x8 hf => ?_)
        exact hret _ _ _ _ _ _ dX10_worked_169 hP hS rfl hf
      · refine lv_aload_n hx hb dX10_worked_20 rfl (lv_at hl 0 rfl) ?_
        refine gf_X10_7 S hK hP h0 dX10_worked_21 hf (fun x9 hx9 hf => ?_)
        refine lv_aload_n hx hb dX10_worked_24 rfl (lv_at hl 0 rfl) ?_
        refine lv_iload_n hx hb dX10_worked_25 rfl (lv_at hl 1 rfl) ?_
        refine r_callV (As := [.int p1]) (rest := [.ref (ad x9)]) S hK hE hst hP hS h0 (by decide) rfl (cw_X10_109 ht ⟨Nat.le_of_ble_eq_true rfl, Nat.le_of_ble_eq_true rfl⟩) rfl hl.1 rfl (Nat.le_of_ble_eq_true rfl) dX10_worked_26 z2 (fun _ _ h => c_X10_textAt hG  h0 h) hf (fun x10 M H locs hP hS bx10 hf => ?_)
        refine lv_iconst (v := 4) hx hb dX10_worked_29 (by decide) ?_
        refine lv_iadd hx hb dX10_worked_30 ?_
        refine lv_iconst (v := 2) hx hb dX10_worked_31 (by decide) ?_
        refine lv_iload_n hx hb dX10_worked_32 rfl (lv_at hl 3 rfl) ?_
        refine lv_imul hx hb dX10_worked_33 ?_
        refine lv_iadd hx hb dX10_worked_34 ?_
        refine r_iald S hK hP hx9 dX10_worked_35 hf (fun x11 hf => ?_)
        refine lv_istore (lv' := [(4, .int x11), (0, .ref (ad o)), (1, .int p1), (2, .int v1), (3, .int v2)]) hx hb dX10_worked_36 hl (by decide) rfl (fun ls hl => ?_)
        refine lv_aload_n hx hb dX10_worked_38 rfl (lv_at hl 1 rfl) ?_
        refine gf_X10_7 S hK hP h0 dX10_worked_39 hf (fun x12 hx12 hf => ?_)
        refine lv_aload_n hx hb dX10_worked_42 rfl (lv_at hl 1 rfl) ?_
        refine lv_iload_n hx hb dX10_worked_43 rfl (lv_at hl 2 rfl) ?_
        refine r_callV (As := [.int p1]) (rest := [.ref (ad x12)]) S hK hE hst hP hS h0 (by decide) rfl (cw_X10_109 ht ⟨Nat.le_of_ble_eq_true rfl, Nat.le_of_ble_eq_true rfl⟩) rfl hl.1 rfl (Nat.le_of_ble_eq_true rfl) dX10_worked_44 z2 (fun _ _ h => c_X10_textAt hG  h0 h) hf (fun x13 M H locs hP hS bx13 hf => ?_)
        refine lv_iconst (v := 4) hx hb dX10_worked_47 (by decide) ?_
        refine lv_iadd hx hb dX10_worked_48 ?_
        refine lv_iconst (v := 2) hx hb dX10_worked_49 (by decide) ?_
        refine lv_iload_n hx hb dX10_worked_50 rfl (lv_at hl 4 rfl) ?_
        refine lv_imul hx hb dX10_worked_51 ?_
        refine lv_iadd hx hb dX10_worked_52 ?_
        refine lv_iconst (v := 1) hx hb dX10_worked_53 (by decide) ?_
        refine lv_iadd hx hb dX10_worked_54 ?_
        refine r_iald S hK hP hx12 dX10_worked_55 hf (fun x14 hf => ?_)
        refine lv_istore (lv' := [(5, .int x14), (4, .int x11), (0, .ref (ad o)), (1, .int p1), (2, .int v1), (3, .int v2)]) hx hb dX10_worked_56 hl (by decide) rfl (fun ls hl => ?_)
        refine lv_iload hx hb dX10_worked_58 (lv_at hl 1 rfl) ?_
        refine lv_iconst (v := 2) hx hb dX10_worked_60 (by decide) ?_
        refine r_icmp_eq (tgt := 93) S dX10_worked_61 (by decide) hf (fun hf => ?_) (fun hf => ?_)
        · refine lv_iload hx hb dX10_worked_93 (lv_at hl 0 rfl) ?_
          refine lv_bipush (v := 33) hx hb dX10_worked_95 (by decide) ?_
          refine r_icmp_ne (tgt := 127) S dX10_worked_97 (by decide) hf (fun hf => ?_) (fun hf => ?_)
          · refine lv_iinc (v := (v1 + (-1))) (lv' := [(2, .int (v1 + (-1))), (5, .int x14), (4, .int x11), (0, .ref (ad o)), (1, .int p1), (3, .int v2)]) hx hb dX10_worked_127 hl (k := 4) rfl rfl (by decide) rfl (fun ls hl => ?_)
            refine lv_aload_n hx hb dX10_worked_130 rfl (lv_at hl 3 rfl) ?_
            refine gf_X10_49 S hK hP h0 dX10_worked_131 hf (fun x15 hx15 hf => ?_)
            refine lv_iload_n hx hb dX10_worked_134 rfl (lv_at hl 0 rfl) ?_
            refine lv_iconst (v := 1) hx hb dX10_worked_135 (by decide) ?_
            refine lv_isub hx hb dX10_worked_136 ?_
            refine lv_iload hx hb dX10_worked_137 (lv_at hl 1 rfl) ?_
            refine lv_aload_n hx hb dX10_worked_139 rfl (lv_at hl 3 rfl) ?_
            refine gf_X10_49 S hK hP h0 dX10_worked_140 hf (fun x16 hx16 hf => ?_)
            refine lv_iload_n hx hb dX10_worked_143 rfl (lv_at hl 0 rfl) ?_
            refine lv_iconst (v := 1) hx hb dX10_worked_144 (by decide) ?_
            refine lv_isub hx hb dX10_worked_145 ?_
            refine r_iald S hK hP hx16 dX10_worked_146 hf (fun x17 hf => ?_)
            refine lv_aload_n hx hb dX10_worked_147 rfl (lv_at hl 3 rfl) ?_
            refine gf_X10_49 S hK hP h0 dX10_worked_148 hf (fun x18 hx18 hf => ?_)
            refine lv_iload_n hx hb dX10_worked_151 rfl (lv_at hl 0 rfl) ?_
            refine r_iald S hK hP hx18 dX10_worked_152 hf (fun x19 hf => ?_)
            refine r_callS (As := [.int x14, .int x17, .int x19]) (rest := [.int ((v1 + (-1)) - 1), .ref (ad x15)]) S hK hE hst hP hS (cw_X10_263 ht ⟨Nat.le_of_ble_eq_true rfl, Nat.le_of_ble_eq_true rfl⟩) rfl hl.1 rfl (Nat.le_of_ble_eq_true rfl) dX10_worked_153 z2 (fun _ _ h => c_X10_joined hG  h) hf (fun x20 M H locs hP hS bx20 hf => ?_)
            refine r_iast S hK hG hP hS hx15 dX10_worked_156 hf (fun M H locs hP hS hf => ?_)
            refine lv_iinc (v := (v2 + 1)) (lv' := [(3, .int (v2 + 1)), (2, .int (v1 + (-1))), (5, .int x14), (4, .int x11), (0, .ref (ad o)), (1, .int p1)]) hx hb dX10_worked_157 hl (k := 5) rfl rfl (by decide) rfl (fun ls hl => ?_)
            refine lv_goto (tgt := 4) hx hb dX10_worked_160 (by decide) ?_
            exact ih3 (v1 + (-1)) (v2 + 1) M H locs ls (lv_sub hl [4, 5, 1, 0] rfl) hP hS hf
          · refine lv_aload_n hx hb dX10_worked_100 rfl (lv_at hl 2 rfl) ?_
            refine gf_X10_49 S hK hP h0 dX10_worked_101 hf (fun x21 hx21 hf => ?_)
            refine lv_iload_n hx hb dX10_worked_104 rfl (lv_at hl 4 rfl) ?_
            refine lv_iconst (v := 1) hx hb dX10_worked_105 (by decide) ?_
            refine lv_isub hx hb dX10_worked_106 ?_
            refine lv_aload_n hx hb dX10_worked_107 rfl (lv_at hl 2 rfl) ?_
            refine gf_X10_49 S hK hP h0 dX10_worked_108 hf (fun x22 hx22 hf => ?_)
            refine lv_iload_n hx hb dX10_worked_111 rfl (lv_at hl 4 rfl) ?_
            refine lv_iconst (v := 1) hx hb dX10_worked_112 (by decide) ?_
            refine lv_isub hx hb dX10_worked_113 ?_
            refine r_iald S hK hP hx22 dX10_worked_114 hf (fun x23 hf => ?_)
            obtain ⟨k25, hk25, hf⟩ := jn_w hf
            have J25 : ∀ (v24 : Int32) (M : Mem) (H : Heap) (locs : List Loc) (ls : Array Slot), lv_has ls 6 [(0, .ref (ad o)), (1, .int p1), (2, .int v1), (3, .int v2)] → va_P D classes (gws K G2 ad M) H → va_S A s.heap H locs → k25 v24 M = some (r, M') → W p l e rm_X10_worked s m args below meth c H locs 0 0 Q (F0 m 123 ls [.int v24, .int (v1 - 1), .ref (ad x21)]) := by
              intro v24 M H locs ls hl hP hS hf
              rw [hk25] at hf
              refine r_iast S hK hG hP hS hx21 dX10_worked_123 hf (fun M H locs hP hS hf => ?_)
              refine lv_goto (tgt := 157) hx hb dX10_worked_124 (by decide) ?_
              refine lv_iinc (v := (v2 + 1)) (lv' := [(3, .int (v2 + 1)), (0, .ref (ad o)), (1, .int p1), (2, .int v1)]) hx hb dX10_worked_157 hl (k := 3) rfl rfl (by decide) rfl (fun ls hl => ?_)
              refine lv_goto (tgt := 4) hx hb dX10_worked_160 (by decide) ?_
              exact ih3 v1 (v2 + 1) M H locs ls (lv_sub hl [1, 2, 3, 0] rfl) hP hS hf
            refine r_if_ne (tgt := 122) S dX10_worked_115 (by decide) hf (fun hf => ?_) (fun hf => ?_)
            · refine lv_iconst (v := 0) hx hb dX10_worked_122 (by decide) ?_
              exact J25 0 M H locs ls (lv_sub hl [2, 3, 4, 5] rfl) hP hS hf
            · refine lv_iconst (v := 1) hx hb dX10_worked_118 (by decide) ?_
              refine lv_goto (tgt := 123) hx hb dX10_worked_119 (by decide) ?_
              exact J25 1 M H locs ls (lv_sub hl [2, 3, 4, 5] rfl) hP hS hf
        · refine lv_aload_n hx hb dX10_worked_64 rfl (lv_at hl 2 rfl) ?_
          refine gf_X10_49 S hK hP h0 dX10_worked_65 hf (fun x26 hx26 hf => ?_)
          refine lv_iload_n hx hb dX10_worked_68 rfl (lv_at hl 4 rfl) ?_
          refine lv_iload hx hb dX10_worked_69 (lv_at hl 1 rfl) ?_
          obtain ⟨k28, hk28, hf⟩ := jn_w hf
          have J28 : ∀ (v27 : Int32) (M : Mem) (H : Heap) (locs : List Loc) (ls : Array Slot), lv_has ls 6 [(0, .ref (ad o)), (1, .int p1), (2, .int v1), (3, .int v2)] → va_P D classes (gws K G2 ad M) H → va_S A s.heap H locs → k28 v27 M = some (r, M') → W p l e rm_X10_worked s m args below meth c H locs 0 0 Q (F0 m 86 ls [.int v27, .int v1, .ref (ad x26)]) := by
            intro v27 M H locs ls hl hP hS hf
            rw [hk28] at hf
            refine r_iast S hK hG hP hS hx26 dX10_worked_86 hf (fun M H locs hP hS hf => ?_)
            refine lv_iinc (v := (v1 + 1)) (lv' := [(2, .int (v1 + 1)), (0, .ref (ad o)), (1, .int p1), (3, .int v2)]) hx hb dX10_worked_87 hl (k := 2) rfl rfl (by decide) rfl (fun ls hl => ?_)
            refine lv_goto (tgt := 157) hx hb dX10_worked_90 (by decide) ?_
            refine lv_iinc (v := (v2 + 1)) (lv' := [(3, .int (v2 + 1)), (2, .int (v1 + 1)), (0, .ref (ad o)), (1, .int p1)]) hx hb dX10_worked_157 hl (k := 3) rfl rfl (by decide) rfl (fun ls hl => ?_)
            refine lv_goto (tgt := 4) hx hb dX10_worked_160 (by decide) ?_
            exact ih3 (v1 + 1) (v2 + 1) M H locs ls (lv_sub hl [2, 3, 1, 0] rfl) hP hS hf
          refine r_if_ne (tgt := 79) S dX10_worked_71 (by decide) hf (fun hf => ?_) (fun hf => ?_)
          · refine lv_aload_n hx hb dX10_worked_79 rfl (lv_at hl 2 rfl) ?_
            refine gf_X10_46 S hK hP h0 dX10_worked_80 hf (fun x29 hx29 hf => ?_)
            refine lv_iload hx hb dX10_worked_83 (lv_at hl 0 rfl) ?_
            refine r_iald S hK hP hx29 dX10_worked_85 hf (fun x30 hf => ?_)
            exact J28 x30 M H locs ls (lv_sub hl [2, 3, 4, 5] rfl) hP hS hf
          · refine lv_iload hx hb dX10_worked_74 (lv_at hl 0 rfl) ?_
            refine lv_goto (tgt := 86) hx hb dX10_worked_76 (by decide) ?_
            exact J28 x14 M H locs ls (lv_sub hl [2, 3, 4, 5] rfl) hP hS hf
  exact L3 _ 0 0 M H locs ls (lv_sub hl [2, 3, 1, 0] rfl) hP hS hf
theorem cw_X10_112 {R : Room} {s : State} {args : Array Value} (ht : ∀ w ∈ Tw, w.before args s = true) (hR : rm_X10_counts.frames + 1 ≤ R.frames ∧ 8 + (4 + 11) + rm_X10_counts.locals ≤ R.locals) : CallW R s args RX10 RX10 112 yX10_counts cX10_counts 4 (some .int) (ws_of yX10_counts cX10_counts 4 (some .int)) rm_X10_counts 0 0 1 := cw_V 1 ht k_1273 k_1275 k_24 k_73 k_1276 (by decide +kernel) rfl rfl hR
theorem cw_X10_115 {R : Room} {s : State} {args : Array Value} (ht : ∀ w ∈ Tw, w.before args s = true) (hR : rm_X10_worked.frames + 1 ≤ R.frames ∧ 8 + (6 + 11) + rm_X10_worked.locals ≤ R.locals) : CallW R s args RX10 RX10 115 yX10_worked cX10_worked 6 (some .int) (ws_of yX10_worked cX10_worked 6 (some .int)) rm_X10_worked 0 0 1 := cw_V 1 ht k_1293 k_1295 k_29 k_73 k_1296 (by decide +kernel) rfl rfl hR
def f_X10_workedOf (o : Nat) (p1 : Int32) (M : Mem) : Option (Int32 × Mem) :=
  bd (f_X10_figureAt o p1 M) fun x1 M =>
  it2 (fun rc4 (v2 : Int32) (v3 : Int32) M =>
    if v3 < p1 then
      vv (grf G2 o 0) fun x23 =>
      bd (f_X10_figureAt o v3 M) fun x24 M =>
      ld M x23 x24 3510 fun x25 =>
      vv (grf G2 o 0) fun x26 =>
      ld M x26 x1 3510 fun x27 =>
      if x25 = x27 then
        vv (v2 + 1) fun x29 =>
        rc4 x29 (v3 + 1) M
      else
        vv (v2 + 0) fun x28 =>
        rc4 x28 (v3 + 1) M
    else
      vv (grf G2 o 24) fun x5 =>
      vv (grf G2 o 0) fun x6 =>
      ld M x6 (x1 + 3) 3510 fun x7 =>
      st M x5 110 128 x7 fun M =>
      vv (grf G2 o 24) fun x8 =>
      vv (grf G2 o 0) fun x9 =>
      ld M x9 (x1 + 4) 3510 fun x10 =>
      jn (fun (v11 : Int32) (M : Mem) =>
        st M x8 102 128 v11 fun M =>
        vv (grf G2 o 24) fun x13 =>
        st M x13 105 128 v2 fun M =>
        vv (grf G2 o 0) fun x14 =>
        ld M x14 x1 3510 fun x15 =>
        bd (f_X10_counts o x15 M) fun x16 M =>
        bd (f_X10_worked o x16 M) fun x17 M =>
        some (x17, M)
      ) fun k12 =>
      if x10 < 0 then
        k12 0 M
      else
        vv (grf G2 o 0) fun x18 =>
        vv (grf G2 o 0) fun x19 =>
        ld M x19 (x1 + 4) 3510 fun x20 =>
        bd (f_X10_figureAt o x20 M) fun x21 M =>
        ld M x18 (x21 + 2) 3510 fun x22 =>
        k12 x22 M
  ) fuel 0 0 M
def rm_X10_workedOf : Room := { frames := 2, cells := 0, slots := 0, locals := 47 }
set_option maxHeartbeats 4000000 in
set_option maxRecDepth 100000 in
theorem c_X10_workedOf {l : Launch} {D : va_G} {K : Ks} {ad : Nat → Nat} {A : Nat → Prop} (hG : Gok G2 ad A) {o : Nat} {p1 : Int32} (h0 : gcl G2 o = 10) {M : Mem} {r : Int32} {M' : Mem} (hf : f_X10_workedOf o p1 M = some (r, M')) : Ct l E2 D K G2 ad A yX10_workedOf (ws_of yX10_workedOf cX10_workedOf 5 (some .int)) rm_X10_workedOf .int [.ref (ad o), .int p1] M r M' := by
  have hst : Est A E2 := est2
  refine Ct.ofW (by decide) (Nat.le_of_ble_eq_true rfl) ?_
  intro p e s m args below meth c Q H locs ls S hK hE hP hS hl hret
  have hx := S.1
  have hb := S.2.1
  have hown := S.2.2.2.1
  have ht := S.2.2.2.2
  have hl : lv_has ls 5 [(0, .ref (ad o)), (1, .int p1)] := hl
  unfold f_X10_workedOf at hf
  refine lv_aload_n hx hb dX10_workedOf_0 rfl (lv_at hl 0 rfl) ?_
  refine lv_iload_n hx hb dX10_workedOf_1 rfl (lv_at hl 1 rfl) ?_
  refine r_callV (As := [.int p1]) (rest := []) S hK hE hst hP hS h0 (by decide) rfl (cw_X10_87 ht ⟨Nat.le_of_ble_eq_true rfl, Nat.le_of_ble_eq_true rfl⟩) rfl hl.1 rfl (Nat.le_of_ble_eq_true rfl) dX10_workedOf_2 z2 (fun _ _ h => c_X10_figureAt hG  h0 h) hf (fun x1 M H locs hP hS bx1 hf => ?_)
  refine lv_istore_n (lv' := [(2, .int x1), (0, .ref (ad o)), (1, .int p1)]) hx hb dX10_workedOf_5 rfl hl (by decide) rfl (fun ls hl => ?_)
  refine lv_iconst (v := 0) hx hb dX10_workedOf_6 (by decide) ?_
  refine lv_istore_n (lv' := [(3, .int 0), (2, .int x1), (0, .ref (ad o)), (1, .int p1)]) hx hb dX10_workedOf_7 rfl hl (by decide) rfl (fun ls hl => ?_)
  refine lv_iconst (v := 0) hx hb dX10_workedOf_8 (by decide) ?_
  refine lv_istore (lv' := [(4, .int 0), (3, .int 0), (2, .int x1), (0, .ref (ad o)), (1, .int p1)]) hx hb dX10_workedOf_9 hl (by decide) rfl (fun ls hl => ?_)
  obtain ⟨F4, hF4, hf⟩ := it2_g hf
  have L4 : ∀ (n : Nat) (v2 : Int32) (v3 : Int32) (M : Mem) (H : Heap) (locs : List Loc) (ls : Array Slot), lv_has ls 5 [(0, .ref (ad o)), (1, .int p1), (2, .int x1), (3, .int v2), (4, .int v3)] → va_P D classes (gws K G2 ad M) H → va_S A s.heap H locs → it2 F4 n v2 v3 M = some (r, M') → W p l e rm_X10_workedOf s m args below meth c H locs 0 0 Q (F0 m 11 ls []) := by
    intro n
    induction n with
    | zero => intro v2 v3 M H locs ls hl hP hS hf; exact nomatch hf
    | succ n ih4 =>
      intro v2 v3 M H locs ls hl hP hS hf
      obtain ⟨rc4, hrc4, hf⟩ := it2_w hf
      rw [← hrc4] at ih4
      rw [hF4] at hf
      refine lv_iload hx hb dX10_workedOf_11 (lv_at hl 4 rfl) ?_
      refine lv_iload_n hx hb dX10_workedOf_13 rfl (lv_at hl 1 rfl) ?_
      refine r_icmp_ge (tgt := 51) S dX10_workedOf_14 (by decide) hf (fun hf => ?_) (fun hf => ?_)
      · refine lv_aload_n hx hb dX10_workedOf_51 rfl (lv_at hl 0 rfl) ?_
        refine gf_X10_46 S hK hP h0 dX10_workedOf_52 hf (fun x5 hx5 hf => ?_)
        refine lv_bipush (v := 110) hx hb dX10_workedOf_55 (by decide) ?_
        refine lv_aload_n hx hb dX10_workedOf_57 rfl (lv_at hl 0 rfl) ?_
        refine gf_X10_7 S hK hP h0 dX10_workedOf_58 hf (fun x6 hx6 hf => ?_)
        refine lv_iload_n hx hb dX10_workedOf_61 rfl (lv_at hl 2 rfl) ?_
        refine lv_iconst (v := 3) hx hb dX10_workedOf_62 (by decide) ?_
        refine lv_iadd hx hb dX10_workedOf_63 ?_
        refine r_iald S hK hP hx6 dX10_workedOf_64 hf (fun x7 hf => ?_)
        refine r_iast S hK hG hP hS hx5 dX10_workedOf_65 hf (fun M H locs hP hS hf => ?_)
        refine lv_aload_n hx hb dX10_workedOf_66 rfl (lv_at hl 0 rfl) ?_
        refine gf_X10_46 S hK hP h0 dX10_workedOf_67 hf (fun x8 hx8 hf => ?_)
        refine lv_bipush (v := 102) hx hb dX10_workedOf_70 (by decide) ?_
        refine lv_aload_n hx hb dX10_workedOf_72 rfl (lv_at hl 0 rfl) ?_
        refine gf_X10_7 S hK hP h0 dX10_workedOf_73 hf (fun x9 hx9 hf => ?_)
        refine lv_iload_n hx hb dX10_workedOf_76 rfl (lv_at hl 2 rfl) ?_
        refine lv_iconst (v := 4) hx hb dX10_workedOf_77 (by decide) ?_
        refine lv_iadd hx hb dX10_workedOf_78 ?_
        refine r_iald S hK hP hx9 dX10_workedOf_79 hf (fun x10 hf => ?_)
        obtain ⟨k12, hk12, hf⟩ := jn_w hf
        have J12 : ∀ (v11 : Int32) (M : Mem) (H : Heap) (locs : List Loc) (ls : Array Slot), lv_has ls 5 [(0, .ref (ad o)), (2, .int x1), (3, .int v2)] → va_P D classes (gws K G2 ad M) H → va_S A s.heap H locs → k12 v11 M = some (r, M') → W p l e rm_X10_workedOf s m args below meth c H locs 0 0 Q (F0 m 106 ls [.int v11, .int 102, .ref (ad x8)]) := by
          intro v11 M H locs ls hl hP hS hf
          rw [hk12] at hf
          refine r_iast S hK hG hP hS hx8 dX10_workedOf_106 hf (fun M H locs hP hS hf => ?_)
          refine lv_aload_n hx hb dX10_workedOf_107 rfl (lv_at hl 0 rfl) ?_
          refine gf_X10_46 S hK hP h0 dX10_workedOf_108 hf (fun x13 hx13 hf => ?_)
          refine lv_bipush (v := 105) hx hb dX10_workedOf_111 (by decide) ?_
          refine lv_iload_n hx hb dX10_workedOf_113 rfl (lv_at hl 2 rfl) ?_
          refine r_iast S hK hG hP hS hx13 dX10_workedOf_114 hf (fun M H locs hP hS hf => ?_)
          refine lv_aload_n hx hb dX10_workedOf_115 rfl (lv_at hl 0 rfl) ?_
          refine lv_aload_n hx hb dX10_workedOf_116 rfl (lv_at hl 0 rfl) ?_
          refine lv_aload_n hx hb dX10_workedOf_117 rfl (lv_at hl 0 rfl) ?_
          refine gf_X10_7 S hK hP h0 dX10_workedOf_118 hf (fun x14 hx14 hf => ?_)
          refine lv_iload_n hx hb dX10_workedOf_121 rfl (lv_at hl 1 rfl) ?_
          refine r_iald S hK hP hx14 dX10_workedOf_122 hf (fun x15 hf => ?_)
          refine r_callV (As := [.int x15]) (rest := [.ref (ad o)]) S hK hE hst hP hS h0 (by decide) rfl (cw_X10_112 ht ⟨Nat.le_of_ble_eq_true rfl, Nat.le_of_ble_eq_true rfl⟩) rfl hl.1 rfl (Nat.le_of_ble_eq_true rfl) dX10_workedOf_123 z2 (fun _ _ h => c_X10_counts hG  h0 h) hf (fun x16 M H locs hP hS bx16 hf => ?_)
          refine r_callV (As := [.int x16]) (rest := []) S hK hE hst hP hS h0 (by decide) rfl (cw_X10_115 ht ⟨Nat.le_of_ble_eq_true rfl, Nat.le_of_ble_eq_true rfl⟩) rfl hl.1 rfl (Nat.le_of_ble_eq_true rfl) dX10_workedOf_126 z2 (fun _ _ h => c_X10_worked hG  h0 h) hf (fun x17 M H locs hP hS bx17 hf => ?_)
          exact hret _ _ _ _ _ _ dX10_workedOf_129 hP hS rfl hf
        refine r_if_ge (tgt := 87) S dX10_workedOf_80 (by decide) hf (fun hf => ?_) (fun hf => ?_)
        · refine lv_aload_n hx hb dX10_workedOf_87 rfl (lv_at hl 0 rfl) ?_
          refine gf_X10_7 S hK hP h0 dX10_workedOf_88 hf (fun x18 hx18 hf => ?_)
          refine lv_aload_n hx hb dX10_workedOf_91 rfl (lv_at hl 0 rfl) ?_
          refine lv_aload_n hx hb dX10_workedOf_92 rfl (lv_at hl 0 rfl) ?_
          refine gf_X10_7 S hK hP h0 dX10_workedOf_93 hf (fun x19 hx19 hf => ?_)
          refine lv_iload_n hx hb dX10_workedOf_96 rfl (lv_at hl 2 rfl) ?_
          refine lv_iconst (v := 4) hx hb dX10_workedOf_97 (by decide) ?_
          refine lv_iadd hx hb dX10_workedOf_98 ?_
          refine r_iald S hK hP hx19 dX10_workedOf_99 hf (fun x20 hf => ?_)
          refine r_callV (As := [.int x20]) (rest := [.ref (ad x18), .int 102, .ref (ad x8)]) S hK hE hst hP hS h0 (by decide) rfl (cw_X10_87 ht ⟨Nat.le_of_ble_eq_true rfl, Nat.le_of_ble_eq_true rfl⟩) rfl hl.1 rfl (Nat.le_of_ble_eq_true rfl) dX10_workedOf_100 z2 (fun _ _ h => c_X10_figureAt hG  h0 h) hf (fun x21 M H locs hP hS bx21 hf => ?_)
          refine lv_iconst (v := 2) hx hb dX10_workedOf_103 (by decide) ?_
          refine lv_iadd hx hb dX10_workedOf_104 ?_
          refine r_iald S hK hP hx18 dX10_workedOf_105 hf (fun x22 hf => ?_)
          exact J12 x22 M H locs ls (lv_sub hl [0, 2, 3] rfl) hP hS hf
        · refine lv_iconst (v := 0) hx hb dX10_workedOf_83 (by decide) ?_
          refine lv_goto (tgt := 106) hx hb dX10_workedOf_84 (by decide) ?_
          exact J12 0 M H locs ls (lv_sub hl [0, 2, 3] rfl) hP hS hf
      · refine lv_iload_n hx hb dX10_workedOf_17 rfl (lv_at hl 3 rfl) ?_
        refine lv_aload_n hx hb dX10_workedOf_18 rfl (lv_at hl 0 rfl) ?_
        refine gf_X10_7 S hK hP h0 dX10_workedOf_19 hf (fun x23 hx23 hf => ?_)
        refine lv_aload_n hx hb dX10_workedOf_22 rfl (lv_at hl 0 rfl) ?_
        refine lv_iload hx hb dX10_workedOf_23 (lv_at hl 4 rfl) ?_
        refine r_callV (As := [.int v3]) (rest := [.ref (ad x23), .int v2]) S hK hE hst hP hS h0 (by decide) rfl (cw_X10_87 ht ⟨Nat.le_of_ble_eq_true rfl, Nat.le_of_ble_eq_true rfl⟩) rfl hl.1 rfl (Nat.le_of_ble_eq_true rfl) dX10_workedOf_25 z2 (fun _ _ h => c_X10_figureAt hG  h0 h) hf (fun x24 M H locs hP hS bx24 hf => ?_)
        refine r_iald S hK hP hx23 dX10_workedOf_28 hf (fun x25 hf => ?_)
        refine lv_aload_n hx hb dX10_workedOf_29 rfl (lv_at hl 0 rfl) ?_
        refine gf_X10_7 S hK hP h0 dX10_workedOf_30 hf (fun x26 hx26 hf => ?_)
        refine lv_iload_n hx hb dX10_workedOf_33 rfl (lv_at hl 2 rfl) ?_
        refine r_iald S hK hP hx26 dX10_workedOf_34 hf (fun x27 hf => ?_)
        refine r_icmp_ne (tgt := 42) S dX10_workedOf_35 (by decide) hf (fun hf => ?_) (fun hf => ?_)
        · refine lv_iconst (v := 0) hx hb dX10_workedOf_42 (by decide) ?_
          refine lv_iadd hx hb dX10_workedOf_43 ?_
          refine r_vi hf (fun x28 hf => ?_)
          refine lv_istore_n (lv' := [(3, .int x28), (0, .ref (ad o)), (1, .int p1), (2, .int x1), (4, .int v3)]) hx hb dX10_workedOf_44 rfl hl (by decide) rfl (fun ls hl => ?_)
          refine lv_iinc (v := (v3 + 1)) (lv' := [(4, .int (v3 + 1)), (3, .int x28), (0, .ref (ad o)), (1, .int p1), (2, .int x1)]) hx hb dX10_workedOf_45 hl (k := 4) rfl rfl (by decide) rfl (fun ls hl => ?_)
          refine lv_goto (tgt := 11) hx hb dX10_workedOf_48 (by decide) ?_
          exact ih4 x28 (v3 + 1) M H locs ls (lv_sub hl [2, 3, 4, 1, 0] rfl) hP hS hf
        · refine lv_iconst (v := 1) hx hb dX10_workedOf_38 (by decide) ?_
          refine lv_goto (tgt := 43) hx hb dX10_workedOf_39 (by decide) ?_
          refine lv_iadd hx hb dX10_workedOf_43 ?_
          refine r_vi hf (fun x29 hf => ?_)
          refine lv_istore_n (lv' := [(3, .int x29), (0, .ref (ad o)), (1, .int p1), (2, .int x1), (4, .int v3)]) hx hb dX10_workedOf_44 rfl hl (by decide) rfl (fun ls hl => ?_)
          refine lv_iinc (v := (v3 + 1)) (lv' := [(4, .int (v3 + 1)), (3, .int x29), (0, .ref (ad o)), (1, .int p1), (2, .int x1)]) hx hb dX10_workedOf_45 hl (k := 4) rfl rfl (by decide) rfl (fun ls hl => ?_)
          refine lv_goto (tgt := 11) hx hb dX10_workedOf_48 (by decide) ?_
          exact ih4 x29 (v3 + 1) M H locs ls (lv_sub hl [2, 3, 4, 1, 0] rfl) hP hS hf
  exact L4 _ 0 0 M H locs ls (lv_sub hl [3, 4, 2, 1, 0] rfl) hP hS hf
theorem cw_X10_118 {R : Room} {s : State} {args : Array Value} (ht : ∀ w ∈ Tw, w.before args s = true) (hR : rm_X10_heldIn.frames + 1 ≤ R.frames ∧ 8 + (2 + 11) + rm_X10_heldIn.locals ≤ R.locals) : CallB R s args RX10 118 yX10_heldIn cX10_heldIn 2 (some .int) (ws_of yX10_heldIn cX10_heldIn 2 (some .int)) rm_X10_heldIn 0 0 2 ∧ (Cond.static yX10_heldIn).before args s = true := cw_S 2 ht k_1300 k_1301 k_73 k_1302 (by decide +kernel) rfl rfl hR
def f_X10_spreadFor (o : Nat) (p1 : Int32) (p2 : Int32) (M : Mem) : Option (Int32 × Mem) :=
  bd (f_X10_counts o 12 M) fun x1 M =>
  vv (grf G2 o 24) fun x2 =>
  st M x2 110 128 p1 fun M =>
  vv (grf G2 o 24) fun x3 =>
  st M x3 121 128 p2 fun M =>
  if x1 < 0 then
    dv p1 <|
    some ((10000 / p1), M)
  else
    bd (f_X10_worked o x1 M) fun x4 M =>
    bd (f_X10_heldIn x4 9999 M) fun x5 M =>
    some (x5, M)
def rm_X10_spreadFor : Room := { frames := 2, cells := 0, slots := 0, locals := 47 }
set_option maxHeartbeats 4000000 in
set_option maxRecDepth 100000 in
theorem c_X10_spreadFor {l : Launch} {D : va_G} {K : Ks} {ad : Nat → Nat} {A : Nat → Prop} (hG : Gok G2 ad A) {o : Nat} {p1 : Int32} {p2 : Int32} (h0 : gcl G2 o = 10) {M : Mem} {r : Int32} {M' : Mem} (hf : f_X10_spreadFor o p1 p2 M = some (r, M')) : Ct l E2 D K G2 ad A yX10_spreadFor (ws_of yX10_spreadFor cX10_spreadFor 4 (some .int)) rm_X10_spreadFor .int [.ref (ad o), .int p1, .int p2] M r M' := by
  have hst : Est A E2 := est2
  refine Ct.ofW (by decide) (Nat.le_of_ble_eq_true rfl) ?_
  intro p e s m args below meth c Q H locs ls S hK hE hP hS hl hret
  have hx := S.1
  have hb := S.2.1
  have hown := S.2.2.2.1
  have ht := S.2.2.2.2
  have hl : lv_has ls 4 [(0, .ref (ad o)), (1, .int p1), (2, .int p2)] := hl
  unfold f_X10_spreadFor at hf
  refine lv_aload_n hx hb dX10_spreadFor_0 rfl (lv_at hl 0 rfl) ?_
  refine lv_bipush (v := 12) hx hb dX10_spreadFor_1 (by decide) ?_
  refine r_callV (As := [.int 12]) (rest := []) S hK hE hst hP hS h0 (by decide) rfl (cw_X10_112 ht ⟨Nat.le_of_ble_eq_true rfl, Nat.le_of_ble_eq_true rfl⟩) rfl hl.1 rfl (Nat.le_of_ble_eq_true rfl) dX10_spreadFor_3 z2 (fun _ _ h => c_X10_counts hG  h0 h) hf (fun x1 M H locs hP hS bx1 hf => ?_)
  refine lv_istore_n (lv' := [(3, .int x1), (0, .ref (ad o)), (1, .int p1), (2, .int p2)]) hx hb dX10_spreadFor_6 rfl hl (by decide) rfl (fun ls hl => ?_)
  refine lv_aload_n hx hb dX10_spreadFor_7 rfl (lv_at hl 1 rfl) ?_
  refine gf_X10_46 S hK hP h0 dX10_spreadFor_8 hf (fun x2 hx2 hf => ?_)
  refine lv_bipush (v := 110) hx hb dX10_spreadFor_11 (by decide) ?_
  refine lv_iload_n hx hb dX10_spreadFor_13 rfl (lv_at hl 2 rfl) ?_
  refine r_iast S hK hG hP hS hx2 dX10_spreadFor_14 hf (fun M H locs hP hS hf => ?_)
  refine lv_aload_n hx hb dX10_spreadFor_15 rfl (lv_at hl 1 rfl) ?_
  refine gf_X10_46 S hK hP h0 dX10_spreadFor_16 hf (fun x3 hx3 hf => ?_)
  refine lv_bipush (v := 121) hx hb dX10_spreadFor_19 (by decide) ?_
  refine lv_iload_n hx hb dX10_spreadFor_21 rfl (lv_at hl 3 rfl) ?_
  refine r_iast S hK hG hP hS hx3 dX10_spreadFor_22 hf (fun M H locs hP hS hf => ?_)
  refine lv_iload_n hx hb dX10_spreadFor_23 rfl (lv_at hl 0 rfl) ?_
  refine r_if_ge (tgt := 35) S dX10_spreadFor_24 (by decide) hf (fun hf => ?_) (fun hf => ?_)
  · refine lv_aload_n hx hb dX10_spreadFor_35 rfl (lv_at hl 1 rfl) ?_
    refine lv_iload_n hx hb dX10_spreadFor_36 rfl (lv_at hl 0 rfl) ?_
    refine r_callV (As := [.int x1]) (rest := []) S hK hE hst hP hS h0 (by decide) rfl (cw_X10_115 ht ⟨Nat.le_of_ble_eq_true rfl, Nat.le_of_ble_eq_true rfl⟩) rfl hl.1 rfl (Nat.le_of_ble_eq_true rfl) dX10_spreadFor_37 z2 (fun _ _ h => c_X10_worked hG  h0 h) hf (fun x4 M H locs hP hS bx4 hf => ?_)
    refine lv_sipush (v := 9999) hx hb dX10_spreadFor_40 (by decide) ?_
    refine r_callS (As := [.int x4, .int 9999]) (rest := []) S hK hE hst hP hS (cw_X10_118 ht ⟨Nat.le_of_ble_eq_true rfl, Nat.le_of_ble_eq_true rfl⟩) rfl hl.1 rfl (Nat.le_of_ble_eq_true rfl) dX10_spreadFor_43 z2 (fun _ _ h => c_X10_heldIn hG  h) hf (fun x5 M H locs hP hS bx5 hf => ?_)
    exact hret _ _ _ _ _ _ dX10_spreadFor_46 hP hS rfl hf
  · refine lv_sipush (v := 10000) hx hb dX10_spreadFor_27 (by decide) ?_
    refine lv_iload_n hx hb dX10_spreadFor_30 rfl (lv_at hl 2 rfl) ?_
    refine r_idiv S dX10_spreadFor_31 hf (fun hf => ?_)
    refine lv_goto (tgt := 46) hx hb dX10_spreadFor_32 (by decide) ?_
    exact hret _ _ _ _ _ _ dX10_spreadFor_46 hP hS rfl hf
theorem cw_X10_122 {R : Room} {s : State} {args : Array Value} (ht : ∀ w ∈ Tw, w.before args s = true) (hR : rm_X10_yearOf.frames + 1 ≤ R.frames ∧ 8 + (2 + 11) + rm_X10_yearOf.locals ≤ R.locals) : CallW R s args RX10 RX10 122 yX10_yearOf cX10_yearOf 2 (some .int) (ws_of yX10_yearOf cX10_yearOf 2 (some .int)) rm_X10_yearOf 0 0 1 := cw_V 1 ht k_1285 k_1287 k_27 k_73 k_1288 (by decide +kernel) rfl rfl hR
theorem cw_X10_125 {R : Room} {s : State} {args : Array Value} (ht : ∀ w ∈ Tw, w.before args s = true) (hR : rm_X10_spreadFor.frames + 1 ≤ R.frames ∧ 8 + (4 + 11) + rm_X10_spreadFor.locals ≤ R.locals) : CallW R s args RX10 RX10 125 yX10_spreadFor cX10_spreadFor 4 (some .int) (ws_of yX10_spreadFor cX10_spreadFor 4 (some .int)) rm_X10_spreadFor 0 0 2 := cw_V 2 ht k_1289 k_1291 k_28 k_73 k_1292 (by decide +kernel) rfl rfl hR
def f_X10_spreadOf (o : Nat) (p1 : Int32) (M : Mem) : Option (Int32 × Mem) :=
  vv (grf G2 o 0) fun x1 =>
  bd (f_X10_figureAt o p1 M) fun x2 M =>
  ld M x1 (x2 + 3) 3510 fun x3 =>
  bd (f_X10_yearOf o p1 M) fun x4 M =>
  bd (f_X10_spreadFor o x3 x4 M) fun x5 M =>
  some (x5, M)
def rm_X10_spreadOf : Room := { frames := 3, cells := 0, slots := 0, locals := 70 }
set_option maxHeartbeats 4000000 in
set_option maxRecDepth 100000 in
theorem c_X10_spreadOf {l : Launch} {D : va_G} {K : Ks} {ad : Nat → Nat} {A : Nat → Prop} (hG : Gok G2 ad A) {o : Nat} {p1 : Int32} (h0 : gcl G2 o = 10) {M : Mem} {r : Int32} {M' : Mem} (hf : f_X10_spreadOf o p1 M = some (r, M')) : Ct l E2 D K G2 ad A yX10_spreadOf (ws_of yX10_spreadOf cX10_spreadOf 2 (some .int)) rm_X10_spreadOf .int [.ref (ad o), .int p1] M r M' := by
  have hst : Est A E2 := est2
  refine Ct.ofW (by decide) (Nat.le_of_ble_eq_true rfl) ?_
  intro p e s m args below meth c Q H locs ls S hK hE hP hS hl hret
  have hx := S.1
  have hb := S.2.1
  have hown := S.2.2.2.1
  have ht := S.2.2.2.2
  have hl : lv_has ls 2 [(0, .ref (ad o)), (1, .int p1)] := hl
  unfold f_X10_spreadOf at hf
  refine lv_aload_n hx hb dX10_spreadOf_0 rfl (lv_at hl 0 rfl) ?_
  refine lv_aload_n hx hb dX10_spreadOf_1 rfl (lv_at hl 0 rfl) ?_
  refine gf_X10_7 S hK hP h0 dX10_spreadOf_2 hf (fun x1 hx1 hf => ?_)
  refine lv_aload_n hx hb dX10_spreadOf_5 rfl (lv_at hl 0 rfl) ?_
  refine lv_iload_n hx hb dX10_spreadOf_6 rfl (lv_at hl 1 rfl) ?_
  refine r_callV (As := [.int p1]) (rest := [.ref (ad x1), .ref (ad o)]) S hK hE hst hP hS h0 (by decide) rfl (cw_X10_87 ht ⟨Nat.le_of_ble_eq_true rfl, Nat.le_of_ble_eq_true rfl⟩) rfl hl.1 rfl (Nat.le_of_ble_eq_true rfl) dX10_spreadOf_7 z2 (fun _ _ h => c_X10_figureAt hG  h0 h) hf (fun x2 M H locs hP hS bx2 hf => ?_)
  refine lv_iconst (v := 3) hx hb dX10_spreadOf_10 (by decide) ?_
  refine lv_iadd hx hb dX10_spreadOf_11 ?_
  refine r_iald S hK hP hx1 dX10_spreadOf_12 hf (fun x3 hf => ?_)
  refine lv_aload_n hx hb dX10_spreadOf_13 rfl (lv_at hl 0 rfl) ?_
  refine lv_iload_n hx hb dX10_spreadOf_14 rfl (lv_at hl 1 rfl) ?_
  refine r_callV (As := [.int p1]) (rest := [.int x3, .ref (ad o)]) S hK hE hst hP hS h0 (by decide) rfl (cw_X10_122 ht ⟨Nat.le_of_ble_eq_true rfl, Nat.le_of_ble_eq_true rfl⟩) rfl hl.1 rfl (Nat.le_of_ble_eq_true rfl) dX10_spreadOf_15 z2 (fun _ _ h => c_X10_yearOf hG  h0 h) hf (fun x4 M H locs hP hS bx4 hf => ?_)
  refine r_callV (As := [.int x3, .int x4]) (rest := []) S hK hE hst hP hS h0 (by decide) rfl (cw_X10_125 ht ⟨Nat.le_of_ble_eq_true rfl, Nat.le_of_ble_eq_true rfl⟩) rfl hl.1 rfl (Nat.le_of_ble_eq_true rfl) dX10_spreadOf_18 z2 (fun _ _ h => c_X10_spreadFor hG  h0 h) hf (fun x5 M H locs hP hS bx5 hf => ?_)
  exact hret _ _ _ _ _ _ dX10_spreadOf_21 hP hS rfl hf
def f_X10_unlike (p0 : Int32) (p1 : Int32) (M : Mem) : Option (Int32 × Mem) :=
  it4 (fun rc5 (v1 : Int32) (v2 : Int32) (v3 : Int32) (v4 : Int32) M =>
    if v4 < 4 then
      jn (fun (v6 : Int32) (M : Mem) =>
        vv (v1 + v6) fun x8 =>
        vv (v2 / 10) fun x9 =>
        vv (v3 / 10) fun x10 =>
        rc5 x8 x9 x10 (v4 + 1) M
      ) fun k7 =>
      if (jr v2 10) = (jr v3 10) then
        k7 0 M
      else
        k7 1 M
    else
      some (v1, M)
  ) fuel 0 p0 p1 0 M
def rm_X10_unlike : Room := { frames := 0, cells := 0, slots := 0, locals := 0 }
set_option maxHeartbeats 4000000 in
set_option maxRecDepth 100000 in
theorem c_X10_unlike {l : Launch} {D : va_G} {K : Ks} {ad : Nat → Nat} {A : Nat → Prop} (hG : Gok G2 ad A) {p0 : Int32} {p1 : Int32}  {M : Mem} {r : Int32} {M' : Mem} (hf : f_X10_unlike p0 p1 M = some (r, M')) : Ct l E2 D K G2 ad A yX10_unlike (ws_of yX10_unlike cX10_unlike 6 (some .int)) rm_X10_unlike .int [.int p0, .int p1] M r M' := by
  have hst : Est A E2 := est2
  refine Ct.ofW (by decide) (Nat.le_of_ble_eq_true rfl) ?_
  intro p e s m args below meth c Q H locs ls S hK hE hP hS hl hret
  have hx := S.1
  have hb := S.2.1
  have hown := S.2.2.2.1
  have ht := S.2.2.2.2
  have hl : lv_has ls 6 [(0, .int p0), (1, .int p1)] := hl
  unfold f_X10_unlike at hf
  refine lv_iconst (v := 0) hx hb dX10_unlike_0 (by decide) ?_
  refine lv_istore_n (lv' := [(2, .int 0), (0, .int p0), (1, .int p1)]) hx hb dX10_unlike_1 rfl hl (by decide) rfl (fun ls hl => ?_)
  refine lv_iload_n hx hb dX10_unlike_2 rfl (lv_at hl 1 rfl) ?_
  refine lv_istore_n (lv' := [(3, .int p0), (2, .int 0), (0, .int p0), (1, .int p1)]) hx hb dX10_unlike_3 rfl hl (by decide) rfl (fun ls hl => ?_)
  refine lv_iload_n hx hb dX10_unlike_4 rfl (lv_at hl 3 rfl) ?_
  refine lv_istore (lv' := [(4, .int p1), (3, .int p0), (2, .int 0), (0, .int p0), (1, .int p1)]) hx hb dX10_unlike_5 hl (by decide) rfl (fun ls hl => ?_)
  refine lv_iconst (v := 0) hx hb dX10_unlike_7 (by decide) ?_
  refine lv_istore (lv' := [(5, .int 0), (4, .int p1), (3, .int p0), (2, .int 0), (0, .int p0), (1, .int p1)]) hx hb dX10_unlike_8 hl (by decide) rfl (fun ls hl => ?_)
  obtain ⟨F5, hF5, hf⟩ := it4_g hf
  have L5 : ∀ (n : Nat) (v1 : Int32) (v2 : Int32) (v3 : Int32) (v4 : Int32) (M : Mem) (H : Heap) (locs : List Loc) (ls : Array Slot), lv_has ls 6 [(2, .int v1), (3, .int v2), (4, .int v3), (5, .int v4)] → va_P D classes (gws K G2 ad M) H → va_S A s.heap H locs → it4 F5 n v1 v2 v3 v4 M = some (r, M') → W p l e rm_X10_unlike s m args below meth c H locs 0 0 Q (F0 m 10 ls []) := by
    intro n
    induction n with
    | zero => intro v1 v2 v3 v4 M H locs ls hl hP hS hf; exact nomatch hf
    | succ n ih5 =>
      intro v1 v2 v3 v4 M H locs ls hl hP hS hf
      obtain ⟨rc5, hrc5, hf⟩ := it4_w hf
      rw [← hrc5] at ih5
      rw [hF5] at hf
      refine lv_iload hx hb dX10_unlike_10 (lv_at hl 3 rfl) ?_
      refine lv_iconst (v := 4) hx hb dX10_unlike_12 (by decide) ?_
      refine r_icmp_ge (tgt := 54) S dX10_unlike_13 (by decide) hf (fun hf => ?_) (fun hf => ?_)
      · refine lv_iload_n hx hb dX10_unlike_54 rfl (lv_at hl 0 rfl) ?_
        exact hret _ _ _ _ _ _ dX10_unlike_55 hP hS rfl hf
      · refine lv_iload_n hx hb dX10_unlike_16 rfl (lv_at hl 0 rfl) ?_
        refine lv_iload_n hx hb dX10_unlike_17 rfl (lv_at hl 1 rfl) ?_
        refine lv_bipush (v := 10) hx hb dX10_unlike_18 (by decide) ?_
        refine lv_irem hx hb dX10_unlike_20 (by decide) ?_
        refine lv_iload hx hb dX10_unlike_21 (lv_at hl 2 rfl) ?_
        refine lv_bipush (v := 10) hx hb dX10_unlike_23 (by decide) ?_
        refine lv_irem hx hb dX10_unlike_25 (by decide) ?_
        obtain ⟨k7, hk7, hf⟩ := jn_w hf
        have J7 : ∀ (v6 : Int32) (M : Mem) (H : Heap) (locs : List Loc) (ls : Array Slot), lv_has ls 6 [(3, .int v2), (4, .int v3), (5, .int v4)] → va_P D classes (gws K G2 ad M) H → va_S A s.heap H locs → k7 v6 M = some (r, M') → W p l e rm_X10_unlike s m args below meth c H locs 0 0 Q (F0 m 34 ls [.int v6, .int v1]) := by
          intro v6 M H locs ls hl hP hS hf
          rw [hk7] at hf
          refine lv_iadd hx hb dX10_unlike_34 ?_
          refine r_vi hf (fun x8 hf => ?_)
          refine lv_istore_n (lv' := [(2, .int x8), (3, .int v2), (4, .int v3), (5, .int v4)]) hx hb dX10_unlike_35 rfl hl (by decide) rfl (fun ls hl => ?_)
          refine lv_iload_n hx hb dX10_unlike_36 rfl (lv_at hl 1 rfl) ?_
          refine lv_bipush (v := 10) hx hb dX10_unlike_37 (by decide) ?_
          refine lv_idiv hx hb dX10_unlike_39 (by decide) ?_
          refine r_vi hf (fun x9 hf => ?_)
          refine lv_istore_n (lv' := [(3, .int x9), (2, .int x8), (4, .int v3), (5, .int v4)]) hx hb dX10_unlike_40 rfl hl (by decide) rfl (fun ls hl => ?_)
          refine lv_iload hx hb dX10_unlike_41 (lv_at hl 2 rfl) ?_
          refine lv_bipush (v := 10) hx hb dX10_unlike_43 (by decide) ?_
          refine lv_idiv hx hb dX10_unlike_45 (by decide) ?_
          refine r_vi hf (fun x10 hf => ?_)
          refine lv_istore (lv' := [(4, .int x10), (3, .int x9), (2, .int x8), (5, .int v4)]) hx hb dX10_unlike_46 hl (by decide) rfl (fun ls hl => ?_)
          refine lv_iinc (v := (v4 + 1)) (lv' := [(5, .int (v4 + 1)), (4, .int x10), (3, .int x9), (2, .int x8)]) hx hb dX10_unlike_48 hl (k := 3) rfl rfl (by decide) rfl (fun ls hl => ?_)
          refine lv_goto (tgt := 10) hx hb dX10_unlike_51 (by decide) ?_
          exact ih5 x8 x9 x10 (v4 + 1) M H locs ls (lv_sub hl [3, 2, 1, 0] rfl) hP hS hf
        refine r_icmp_ne (tgt := 33) S dX10_unlike_26 (by decide) hf (fun hf => ?_) (fun hf => ?_)
        · refine lv_iconst (v := 1) hx hb dX10_unlike_33 (by decide) ?_
          exact J7 1 M H locs ls (lv_sub hl [1, 2, 3] rfl) hP hS hf
        · refine lv_iconst (v := 0) hx hb dX10_unlike_29 (by decide) ?_
          refine lv_goto (tgt := 34) hx hb dX10_unlike_30 (by decide) ?_
          exact J7 0 M H locs ls (lv_sub hl [1, 2, 3] rfl) hP hS hf
  exact L5 _ 0 p0 p1 0 M H locs ls (lv_sub hl [3, 2, 1, 0] rfl) hP hS hf
theorem cw_X10_128 {R : Room} {s : State} {args : Array Value} (ht : ∀ w ∈ Tw, w.before args s = true) (hR : rm_X10_spreadOf.frames + 1 ≤ R.frames ∧ 8 + (2 + 11) + rm_X10_spreadOf.locals ≤ R.locals) : CallW R s args RX10 RX10 128 yX10_spreadOf cX10_spreadOf 2 (some .int) (ws_of yX10_spreadOf cX10_spreadOf 2 (some .int)) rm_X10_spreadOf 0 0 1 := cw_V 1 ht k_1281 k_1283 k_26 k_73 k_1284 (by decide +kernel) rfl rfl hR
theorem cw_X10_131 {R : Room} {s : State} {args : Array Value} (ht : ∀ w ∈ Tw, w.before args s = true) (hR : rm_X10_workedOf.frames + 1 ≤ R.frames ∧ 8 + (5 + 11) + rm_X10_workedOf.locals ≤ R.locals) : CallW R s args RX10 RX10 131 yX10_workedOf cX10_workedOf 5 (some .int) (ws_of yX10_workedOf cX10_workedOf 5 (some .int)) rm_X10_workedOf 0 0 1 := cw_V 1 ht k_1303 k_1305 k_30 k_73 k_1306 (by decide +kernel) rfl rfl hR
theorem cw_X10_138 {R : Room} {s : State} {args : Array Value} (ht : ∀ w ∈ Tw, w.before args s = true) (hR : rm_X10_unlike.frames + 1 ≤ R.frames ∧ 8 + (6 + 11) + rm_X10_unlike.locals ≤ R.locals) : CallB R s args RX10 138 yX10_unlike cX10_unlike 6 (some .int) (ws_of yX10_unlike cX10_unlike 6 (some .int)) rm_X10_unlike 0 0 2 ∧ (Cond.static yX10_unlike).before args s = true := cw_S 2 ht k_1309 k_1310 k_73 k_1311 (by decide +kernel) rfl rfl hR
def f_X10_fits (o : Nat) (p1 : Int32) (p2 : Int32) (M : Mem) : Option (Int32 × Mem) :=
  bd (f_X10_figureAt o p1 M) fun x1 M =>
  vv (grf G2 o 0) fun x2 =>
  ld M x2 (x1 + 4) 3510 fun x3 =>
  jn (fun (v4 : Int32) (M : Mem) =>
    vv (grf G2 o 0) fun x6 =>
    ld M x6 x1 3510 fun x7 =>
    bd (f_X10_counts o x7 M) fun x8 M =>
    jn (fun (v9 : Int32) (M : Mem) =>
      if p2 = 1 then
        vv (grf G2 o 0) fun x11 =>
        ld M x11 (x1 + 2) 3510 fun x12 =>
        vv (grf G2 o 0) fun x13 =>
        ld M x13 8 3510 fun x14 =>
        bd (f_X10_spreadOf o p1 M) fun x15 M =>
        bd (f_X10_spreadOf o p1 M) fun x16 M =>
        bd (f_X10_isIn (Int32.toInt64 (x12 - x14)) (Int32.toInt64 (-x15)) (Int32.toInt64 x16) M) fun x17 M =>
        some (x17, M)
      else
      if p2 = 2 then
        if v9 = 0 then
          some (0, M)
        else
          bd (f_X10_workedOf o p1 M) fun x20 M =>
          vv (grf G2 o 0) fun x21 =>
          ld M x21 (x1 + 2) 3510 fun x22 =>
          if x20 = x22 then
            some (1, M)
          else
            some (0, M)
      else
      if p2 = 3 then
        if v9 = 0 then
          some (0, M)
        else
          bd (f_X10_workedOf o p1 M) fun x25 M =>
          vv (grf G2 o 0) fun x26 =>
          ld M x26 (x1 + 2) 3510 fun x27 =>
          bd (f_X10_isIn ((Int32.toInt64 x25) - (Int32.toInt64 x27)) (-50) 50 M) fun x28 M =>
          if x28 = 0 then
            some (0, M)
          else
            some (1, M)
      else
      if p2 = 4 then
        if x3 < 0 then
          some (0, M)
        else
          vv (grf G2 o 0) fun x31 =>
          ld M x31 (x1 + 2) 3510 fun x32 =>
          if v4 = x32 then
            some (1, M)
          else
            some (0, M)
      else
      if p2 = 5 then
        if x3 < 0 then
          some (0, M)
        else
          vv (grf G2 o 0) fun x35 =>
          ld M x35 (x1 + 2) 3510 fun x36 =>
          bd (f_X10_unlike v4 x36 M) fun x37 M =>
          if x37 = 1 then
            some (1, M)
          else
            some (0, M)
      else
      if p2 = 6 then
        some (1, M)
      else
      if p2 = 7 then
        if x3 < 0 then
          some (0, M)
        else
          vv (grf G2 o 0) fun x42 =>
          ld M x42 (x1 + 2) 3510 fun x43 =>
          if (jr (v4 + x43) 2) = 0 then
            some (1, M)
          else
            some (0, M)
      else
      some (1, M)
    ) fun k10 =>
    if x8 < 0 then
      k10 0 M
    else
      k10 1 M
  ) fun k5 =>
  if x3 < 0 then
    k5 0 M
  else
    vv (grf G2 o 0) fun x46 =>
    bd (f_X10_figureAt o x3 M) fun x47 M =>
    ld M x46 (x47 + 2) 3510 fun x48 =>
    k5 x48 M
def rm_X10_fits : Room := { frames := 4, cells := 0, slots := 0, locals := 91 }
set_option maxHeartbeats 4000000 in
set_option maxRecDepth 100000 in
theorem c_X10_fits {l : Launch} {D : va_G} {K : Ks} {ad : Nat → Nat} {A : Nat → Prop} (hG : Gok G2 ad A) {o : Nat} {p1 : Int32} {p2 : Int32} (h0 : gcl G2 o = 10) {M : Mem} {r : Int32} {M' : Mem} (hf : f_X10_fits o p1 p2 M = some (r, M')) : Ct l E2 D K G2 ad A yX10_fits (ws_of yX10_fits cX10_fits 7 (some .boolean)) rm_X10_fits .boolean [.ref (ad o), .int p1, .int p2] M r M' := by
  have hst : Est A E2 := est2
  refine Ct.ofW (by decide) (Nat.le_of_ble_eq_true rfl) ?_
  intro p e s m args below meth c Q H locs ls S hK hE hP hS hl hret
  have hx := S.1
  have hb := S.2.1
  have hown := S.2.2.2.1
  have ht := S.2.2.2.2
  have hl : lv_has ls 7 [(0, .ref (ad o)), (1, .int p1), (2, .int p2)] := hl
  unfold f_X10_fits at hf
  refine lv_aload_n hx hb dX10_fits_0 rfl (lv_at hl 0 rfl) ?_
  refine lv_iload_n hx hb dX10_fits_1 rfl (lv_at hl 1 rfl) ?_
  refine r_callV (As := [.int p1]) (rest := []) S hK hE hst hP hS h0 (by decide) rfl (cw_X10_87 ht ⟨Nat.le_of_ble_eq_true rfl, Nat.le_of_ble_eq_true rfl⟩) rfl hl.1 rfl (Nat.le_of_ble_eq_true rfl) dX10_fits_2 z2 (fun _ _ h => c_X10_figureAt hG  h0 h) hf (fun x1 M H locs hP hS bx1 hf => ?_)
  refine lv_istore_n (lv' := [(3, .int x1), (0, .ref (ad o)), (1, .int p1), (2, .int p2)]) hx hb dX10_fits_5 rfl hl (by decide) rfl (fun ls hl => ?_)
  refine lv_aload_n hx hb dX10_fits_6 rfl (lv_at hl 1 rfl) ?_
  refine gf_X10_7 S hK hP h0 dX10_fits_7 hf (fun x2 hx2 hf => ?_)
  refine lv_iload_n hx hb dX10_fits_10 rfl (lv_at hl 0 rfl) ?_
  refine lv_iconst (v := 4) hx hb dX10_fits_11 (by decide) ?_
  refine lv_iadd hx hb dX10_fits_12 ?_
  refine r_iald S hK hP hx2 dX10_fits_13 hf (fun x3 hf => ?_)
  refine lv_istore (lv' := [(4, .int x3), (3, .int x1), (0, .ref (ad o)), (1, .int p1), (2, .int p2)]) hx hb dX10_fits_14 hl (by decide) rfl (fun ls hl => ?_)
  refine lv_iload hx hb dX10_fits_16 (lv_at hl 0 rfl) ?_
  obtain ⟨k5, hk5, hf⟩ := jn_w hf
  have J5 : ∀ (v4 : Int32) (M : Mem) (H : Heap) (locs : List Loc) (ls : Array Slot), lv_has ls 7 [(0, .ref (ad o)), (1, .int p1), (2, .int p2), (3, .int x1), (4, .int x3)] → va_P D classes (gws K G2 ad M) H → va_S A s.heap H locs → k5 v4 M = some (r, M') → W p l e rm_X10_fits s m args below meth c H locs 0 0 Q (F0 m 38 ls [.int v4]) := by
    intro v4 M H locs ls hl hP hS hf
    rw [hk5] at hf
    refine lv_istore (lv' := [(5, .int v4), (0, .ref (ad o)), (1, .int p1), (2, .int p2), (3, .int x1), (4, .int x3)]) hx hb dX10_fits_38 hl (by decide) rfl (fun ls hl => ?_)
    refine lv_aload_n hx hb dX10_fits_40 rfl (lv_at hl 1 rfl) ?_
    refine lv_aload_n hx hb dX10_fits_41 rfl (lv_at hl 1 rfl) ?_
    refine gf_X10_7 S hK hP h0 dX10_fits_42 hf (fun x6 hx6 hf => ?_)
    refine lv_iload_n hx hb dX10_fits_45 rfl (lv_at hl 4 rfl) ?_
    refine r_iald S hK hP hx6 dX10_fits_46 hf (fun x7 hf => ?_)
    refine r_callV (As := [.int x7]) (rest := []) S hK hE hst hP hS h0 (by decide) rfl (cw_X10_112 ht ⟨Nat.le_of_ble_eq_true rfl, Nat.le_of_ble_eq_true rfl⟩) rfl hl.1 rfl (Nat.le_of_ble_eq_true rfl) dX10_fits_47 z2 (fun _ _ h => c_X10_counts hG  h0 h) hf (fun x8 M H locs hP hS bx8 hf => ?_)
    obtain ⟨k10, hk10, hf⟩ := jn_w hf
    have J10 : ∀ (v9 : Int32) (M : Mem) (H : Heap) (locs : List Loc) (ls : Array Slot), lv_has ls 7 [(0, .ref (ad o)), (1, .int p1), (2, .int p2), (3, .int x1), (4, .int x3), (5, .int v4)] → va_P D classes (gws K G2 ad M) H → va_S A s.heap H locs → k10 v9 M = some (r, M') → W p l e rm_X10_fits s m args below meth c H locs 0 0 Q (F0 m 58 ls [.int v9]) := by
      intro v9 M H locs ls hl hP hS hf
      rw [hk10] at hf
      refine lv_istore (lv' := [(6, .int v9), (0, .ref (ad o)), (1, .int p1), (2, .int p2), (3, .int x1), (4, .int x3), (5, .int v4)]) hx hb dX10_fits_58 hl (by decide) rfl (fun ls hl => ?_)
      refine lv_iload_n hx hb dX10_fits_60 rfl (lv_at hl 3 rfl) ?_
      refine r_case hf (fun e18 hf => ?_) (fun n19 hf => ?_)
      · refine lv_tableIn (x := p2) (tgt := 104) hx hb dX10_fits_61 (by rw [e18]; decide) (by rw [e18]; decide) (by rw [e18]; rfl) (by decide) ?_
        refine lv_aload_n hx hb dX10_fits_104 rfl (lv_at hl 1 rfl) ?_
        refine gf_X10_7 S hK hP h0 dX10_fits_105 hf (fun x11 hx11 hf => ?_)
        refine lv_iload_n hx hb dX10_fits_108 rfl (lv_at hl 4 rfl) ?_
        refine lv_iconst (v := 2) hx hb dX10_fits_109 (by decide) ?_
        refine lv_iadd hx hb dX10_fits_110 ?_
        refine r_iald S hK hP hx11 dX10_fits_111 hf (fun x12 hf => ?_)
        refine lv_aload_n hx hb dX10_fits_112 rfl (lv_at hl 1 rfl) ?_
        refine gf_X10_7 S hK hP h0 dX10_fits_113 hf (fun x13 hx13 hf => ?_)
        refine lv_bipush (v := 8) hx hb dX10_fits_116 (by decide) ?_
        refine r_iald S hK hP hx13 dX10_fits_118 hf (fun x14 hf => ?_)
        refine lv_isub hx hb dX10_fits_119 ?_
        refine lv_i2l (v := (Int32.toInt64 (x12 - x14))) hx hb dX10_fits_120 rfl ?_
        refine lv_aload_n hx hb dX10_fits_121 rfl (lv_at hl 1 rfl) ?_
        refine lv_iload_n hx hb dX10_fits_122 rfl (lv_at hl 2 rfl) ?_
        refine r_callV (As := [.int p1]) (rest := [.long (Int32.toInt64 (x12 - x14))]) S hK hE hst hP hS h0 (by decide) rfl (cw_X10_128 ht ⟨Nat.le_of_ble_eq_true rfl, Nat.le_of_ble_eq_true rfl⟩) rfl hl.1 rfl (Nat.le_of_ble_eq_true rfl) dX10_fits_123 z2 (fun _ _ h => c_X10_spreadOf hG  h0 h) hf (fun x15 M H locs hP hS bx15 hf => ?_)
        refine lv_ineg hx hb dX10_fits_126 ?_
        refine lv_i2l (v := (Int32.toInt64 (-x15))) hx hb dX10_fits_127 rfl ?_
        refine lv_aload_n hx hb dX10_fits_128 rfl (lv_at hl 1 rfl) ?_
        refine lv_iload_n hx hb dX10_fits_129 rfl (lv_at hl 2 rfl) ?_
        refine r_callV (As := [.int p1]) (rest := [.long (Int32.toInt64 (-x15)), .long (Int32.toInt64 (x12 - x14))]) S hK hE hst hP hS h0 (by decide) rfl (cw_X10_128 ht ⟨Nat.le_of_ble_eq_true rfl, Nat.le_of_ble_eq_true rfl⟩) rfl hl.1 rfl (Nat.le_of_ble_eq_true rfl) dX10_fits_130 z2 (fun _ _ h => c_X10_spreadOf hG  h0 h) hf (fun x16 M H locs hP hS bx16 hf => ?_)
        refine lv_i2l (v := (Int32.toInt64 x16)) hx hb dX10_fits_133 rfl ?_
        refine r_callS (As := [.long (Int32.toInt64 (x12 - x14)), .long (Int32.toInt64 (-x15)), .long (Int32.toInt64 x16)]) (rest := []) S hK hE hst hP hS (cw_X10_74 ht ⟨Nat.le_of_ble_eq_true rfl, Nat.le_of_ble_eq_true rfl⟩) rfl hl.1 rfl (Nat.le_of_ble_eq_true rfl) dX10_fits_134 z2 (fun _ _ h => c_X10_isIn hG  h) hf (fun x17 M H locs hP hS bx17 hf => ?_)
        exact hret _ _ _ _ _ _ dX10_fits_137 hP hS bx17 hf
      refine r_case hf (fun e23 hf => ?_) (fun n24 hf => ?_)
      · refine lv_tableIn (x := p2) (tgt := 138) hx hb dX10_fits_61 (by rw [e23]; decide) (by rw [e23]; decide) (by rw [e23]; rfl) (by decide) ?_
        refine lv_iload hx hb dX10_fits_138 (lv_at hl 0 rfl) ?_
        refine r_if_eq (tgt := 163) S dX10_fits_140 (by decide) hf (fun hf => ?_) (fun hf => ?_)
        · refine lv_iconst (v := 0) hx hb dX10_fits_163 (by decide) ?_
          exact hret _ _ _ _ _ _ dX10_fits_164 hP hS rfl hf
        · refine lv_aload_n hx hb dX10_fits_143 rfl (lv_at hl 1 rfl) ?_
          refine lv_iload_n hx hb dX10_fits_144 rfl (lv_at hl 2 rfl) ?_
          refine r_callV (As := [.int p1]) (rest := []) S hK hE hst hP hS h0 (by decide) rfl (cw_X10_131 ht ⟨Nat.le_of_ble_eq_true rfl, Nat.le_of_ble_eq_true rfl⟩) rfl hl.1 rfl (Nat.le_of_ble_eq_true rfl) dX10_fits_145 z2 (fun _ _ h => c_X10_workedOf hG  h0 h) hf (fun x20 M H locs hP hS bx20 hf => ?_)
          refine lv_aload_n hx hb dX10_fits_148 rfl (lv_at hl 1 rfl) ?_
          refine gf_X10_7 S hK hP h0 dX10_fits_149 hf (fun x21 hx21 hf => ?_)
          refine lv_iload_n hx hb dX10_fits_152 rfl (lv_at hl 4 rfl) ?_
          refine lv_iconst (v := 2) hx hb dX10_fits_153 (by decide) ?_
          refine lv_iadd hx hb dX10_fits_154 ?_
          refine r_iald S hK hP hx21 dX10_fits_155 hf (fun x22 hf => ?_)
          refine r_icmp_ne (tgt := 163) S dX10_fits_156 (by decide) hf (fun hf => ?_) (fun hf => ?_)
          · refine lv_iconst (v := 0) hx hb dX10_fits_163 (by decide) ?_
            exact hret _ _ _ _ _ _ dX10_fits_164 hP hS rfl hf
          · refine lv_iconst (v := 1) hx hb dX10_fits_159 (by decide) ?_
            refine lv_goto (tgt := 164) hx hb dX10_fits_160 (by decide) ?_
            exact hret _ _ _ _ _ _ dX10_fits_164 hP hS rfl hf
      refine r_case hf (fun e29 hf => ?_) (fun n30 hf => ?_)
      · refine lv_tableIn (x := p2) (tgt := 165) hx hb dX10_fits_61 (by rw [e29]; decide) (by rw [e29]; decide) (by rw [e29]; rfl) (by decide) ?_
        refine lv_iload hx hb dX10_fits_165 (lv_at hl 0 rfl) ?_
        refine r_if_eq (tgt := 202) S dX10_fits_167 (by decide) hf (fun hf => ?_) (fun hf => ?_)
        · refine lv_iconst (v := 0) hx hb dX10_fits_202 (by decide) ?_
          exact hret _ _ _ _ _ _ dX10_fits_203 hP hS rfl hf
        · refine lv_aload_n hx hb dX10_fits_170 rfl (lv_at hl 1 rfl) ?_
          refine lv_iload_n hx hb dX10_fits_171 rfl (lv_at hl 2 rfl) ?_
          refine r_callV (As := [.int p1]) (rest := []) S hK hE hst hP hS h0 (by decide) rfl (cw_X10_131 ht ⟨Nat.le_of_ble_eq_true rfl, Nat.le_of_ble_eq_true rfl⟩) rfl hl.1 rfl (Nat.le_of_ble_eq_true rfl) dX10_fits_172 z2 (fun _ _ h => c_X10_workedOf hG  h0 h) hf (fun x25 M H locs hP hS bx25 hf => ?_)
          refine lv_i2l (v := (Int32.toInt64 x25)) hx hb dX10_fits_175 rfl ?_
          refine lv_aload_n hx hb dX10_fits_176 rfl (lv_at hl 1 rfl) ?_
          refine gf_X10_7 S hK hP h0 dX10_fits_177 hf (fun x26 hx26 hf => ?_)
          refine lv_iload_n hx hb dX10_fits_180 rfl (lv_at hl 4 rfl) ?_
          refine lv_iconst (v := 2) hx hb dX10_fits_181 (by decide) ?_
          refine lv_iadd hx hb dX10_fits_182 ?_
          refine r_iald S hK hP hx26 dX10_fits_183 hf (fun x27 hf => ?_)
          refine lv_i2l (v := (Int32.toInt64 x27)) hx hb dX10_fits_184 rfl ?_
          refine lv_lsub hx hb dX10_fits_185 ?_
          refine lv_ldc2 (v := (-50)) hx hb hown (ht _ k_1307) dX10_fits_186 ?_
          refine lv_ldc2 (v := 50) hx hb hown (ht _ k_1308) dX10_fits_189 ?_
          refine r_callS (As := [.long ((Int32.toInt64 x25) - (Int32.toInt64 x27)), .long (-50), .long 50]) (rest := []) S hK hE hst hP hS (cw_X10_74 ht ⟨Nat.le_of_ble_eq_true rfl, Nat.le_of_ble_eq_true rfl⟩) rfl hl.1 rfl (Nat.le_of_ble_eq_true rfl) dX10_fits_192 z2 (fun _ _ h => c_X10_isIn hG  h) hf (fun x28 M H locs hP hS bx28 hf => ?_)
          refine r_if_eq (tgt := 202) S dX10_fits_195 (by decide) hf (fun hf => ?_) (fun hf => ?_)
          · refine lv_iconst (v := 0) hx hb dX10_fits_202 (by decide) ?_
            exact hret _ _ _ _ _ _ dX10_fits_203 hP hS rfl hf
          · refine lv_iconst (v := 1) hx hb dX10_fits_198 (by decide) ?_
            refine lv_goto (tgt := 203) hx hb dX10_fits_199 (by decide) ?_
            exact hret _ _ _ _ _ _ dX10_fits_203 hP hS rfl hf
      refine r_case hf (fun e33 hf => ?_) (fun n34 hf => ?_)
      · refine lv_tableIn (x := p2) (tgt := 204) hx hb dX10_fits_61 (by rw [e33]; decide) (by rw [e33]; decide) (by rw [e33]; rfl) (by decide) ?_
        refine lv_iload hx hb dX10_fits_204 (lv_at hl 5 rfl) ?_
        refine r_if_lt (tgt := 226) S dX10_fits_206 (by decide) hf (fun hf => ?_) (fun hf => ?_)
        · refine lv_iconst (v := 0) hx hb dX10_fits_226 (by decide) ?_
          exact hret _ _ _ _ _ _ dX10_fits_227 hP hS rfl hf
        · refine lv_iload hx hb dX10_fits_209 (lv_at hl 6 rfl) ?_
          refine lv_aload_n hx hb dX10_fits_211 rfl (lv_at hl 1 rfl) ?_
          refine gf_X10_7 S hK hP h0 dX10_fits_212 hf (fun x31 hx31 hf => ?_)
          refine lv_iload_n hx hb dX10_fits_215 rfl (lv_at hl 4 rfl) ?_
          refine lv_iconst (v := 2) hx hb dX10_fits_216 (by decide) ?_
          refine lv_iadd hx hb dX10_fits_217 ?_
          refine r_iald S hK hP hx31 dX10_fits_218 hf (fun x32 hf => ?_)
          refine r_icmp_ne (tgt := 226) S dX10_fits_219 (by decide) hf (fun hf => ?_) (fun hf => ?_)
          · refine lv_iconst (v := 0) hx hb dX10_fits_226 (by decide) ?_
            exact hret _ _ _ _ _ _ dX10_fits_227 hP hS rfl hf
          · refine lv_iconst (v := 1) hx hb dX10_fits_222 (by decide) ?_
            refine lv_goto (tgt := 227) hx hb dX10_fits_223 (by decide) ?_
            exact hret _ _ _ _ _ _ dX10_fits_227 hP hS rfl hf
      refine r_case hf (fun e38 hf => ?_) (fun n39 hf => ?_)
      · refine lv_tableIn (x := p2) (tgt := 228) hx hb dX10_fits_61 (by rw [e38]; decide) (by rw [e38]; decide) (by rw [e38]; rfl) (by decide) ?_
        refine lv_iload hx hb dX10_fits_228 (lv_at hl 5 rfl) ?_
        refine r_if_lt (tgt := 254) S dX10_fits_230 (by decide) hf (fun hf => ?_) (fun hf => ?_)
        · refine lv_iconst (v := 0) hx hb dX10_fits_254 (by decide) ?_
          exact hret _ _ _ _ _ _ dX10_fits_255 hP hS rfl hf
        · refine lv_iload hx hb dX10_fits_233 (lv_at hl 6 rfl) ?_
          refine lv_aload_n hx hb dX10_fits_235 rfl (lv_at hl 1 rfl) ?_
          refine gf_X10_7 S hK hP h0 dX10_fits_236 hf (fun x35 hx35 hf => ?_)
          refine lv_iload_n hx hb dX10_fits_239 rfl (lv_at hl 4 rfl) ?_
          refine lv_iconst (v := 2) hx hb dX10_fits_240 (by decide) ?_
          refine lv_iadd hx hb dX10_fits_241 ?_
          refine r_iald S hK hP hx35 dX10_fits_242 hf (fun x36 hf => ?_)
          refine r_callS (As := [.int v4, .int x36]) (rest := []) S hK hE hst hP hS (cw_X10_138 ht ⟨Nat.le_of_ble_eq_true rfl, Nat.le_of_ble_eq_true rfl⟩) rfl hl.1 rfl (Nat.le_of_ble_eq_true rfl) dX10_fits_243 z2 (fun _ _ h => c_X10_unlike hG  h) hf (fun x37 M H locs hP hS bx37 hf => ?_)
          refine lv_iconst (v := 1) hx hb dX10_fits_246 (by decide) ?_
          refine r_icmp_ne (tgt := 254) S dX10_fits_247 (by decide) hf (fun hf => ?_) (fun hf => ?_)
          · refine lv_iconst (v := 0) hx hb dX10_fits_254 (by decide) ?_
            exact hret _ _ _ _ _ _ dX10_fits_255 hP hS rfl hf
          · refine lv_iconst (v := 1) hx hb dX10_fits_250 (by decide) ?_
            refine lv_goto (tgt := 255) hx hb dX10_fits_251 (by decide) ?_
            exact hret _ _ _ _ _ _ dX10_fits_255 hP hS rfl hf
      refine r_case hf (fun e40 hf => ?_) (fun n41 hf => ?_)
      · refine lv_tableIn (x := p2) (tgt := 283) hx hb dX10_fits_61 (by rw [e40]; decide) (by rw [e40]; decide) (by rw [e40]; rfl) (by decide) ?_
        refine lv_iconst (v := 1) hx hb dX10_fits_283 (by decide) ?_
        exact hret _ _ _ _ _ _ dX10_fits_284 hP hS rfl hf
      refine r_case hf (fun e44 hf => ?_) (fun n45 hf => ?_)
      · refine lv_tableIn (x := p2) (tgt := 256) hx hb dX10_fits_61 (by rw [e44]; decide) (by rw [e44]; decide) (by rw [e44]; rfl) (by decide) ?_
        refine lv_iload hx hb dX10_fits_256 (lv_at hl 5 rfl) ?_
        refine r_if_lt (tgt := 281) S dX10_fits_258 (by decide) hf (fun hf => ?_) (fun hf => ?_)
        · refine lv_iconst (v := 0) hx hb dX10_fits_281 (by decide) ?_
          exact hret _ _ _ _ _ _ dX10_fits_282 hP hS rfl hf
        · refine lv_iload hx hb dX10_fits_261 (lv_at hl 6 rfl) ?_
          refine lv_aload_n hx hb dX10_fits_263 rfl (lv_at hl 1 rfl) ?_
          refine gf_X10_7 S hK hP h0 dX10_fits_264 hf (fun x42 hx42 hf => ?_)
          refine lv_iload_n hx hb dX10_fits_267 rfl (lv_at hl 4 rfl) ?_
          refine lv_iconst (v := 2) hx hb dX10_fits_268 (by decide) ?_
          refine lv_iadd hx hb dX10_fits_269 ?_
          refine r_iald S hK hP hx42 dX10_fits_270 hf (fun x43 hf => ?_)
          refine lv_iadd hx hb dX10_fits_271 ?_
          refine lv_iconst (v := 2) hx hb dX10_fits_272 (by decide) ?_
          refine lv_irem hx hb dX10_fits_273 (by decide) ?_
          refine r_if_ne (tgt := 281) S dX10_fits_274 (by decide) hf (fun hf => ?_) (fun hf => ?_)
          · refine lv_iconst (v := 0) hx hb dX10_fits_281 (by decide) ?_
            exact hret _ _ _ _ _ _ dX10_fits_282 hP hS rfl hf
          · refine lv_iconst (v := 1) hx hb dX10_fits_277 (by decide) ?_
            refine lv_goto (tgt := 282) hx hb dX10_fits_278 (by decide) ?_
            exact hret _ _ _ _ _ _ dX10_fits_282 hP hS rfl hf
      refine lv_tableOut (x := p2) (tgt := 283) hx hb dX10_fits_61 (by have q0 := lv_neT (a := 1) n19 (by decide); have q1 := lv_neT (a := 2) n24 (by decide); have q2 := lv_neT (a := 3) n30 (by decide); have q3 := lv_neT (a := 4) n34 (by decide); have q4 := lv_neT (a := 5) n39 (by decide); have q5 := lv_neT (a := 6) n41 (by decide); have q6 := lv_neT (a := 7) n45 (by decide); omega) (by decide) ?_
      refine lv_iconst (v := 1) hx hb dX10_fits_283 (by decide) ?_
      exact hret _ _ _ _ _ _ dX10_fits_284 hP hS rfl hf
    refine r_if_lt (tgt := 57) S dX10_fits_50 (by decide) hf (fun hf => ?_) (fun hf => ?_)
    · refine lv_iconst (v := 0) hx hb dX10_fits_57 (by decide) ?_
      exact J10 0 M H locs ls (lv_sub hl [1, 2, 3, 4, 5, 0] rfl) hP hS hf
    · refine lv_iconst (v := 1) hx hb dX10_fits_53 (by decide) ?_
      refine lv_goto (tgt := 58) hx hb dX10_fits_54 (by decide) ?_
      exact J10 1 M H locs ls (lv_sub hl [1, 2, 3, 4, 5, 0] rfl) hP hS hf
  refine r_if_ge (tgt := 25) S dX10_fits_18 (by decide) hf (fun hf => ?_) (fun hf => ?_)
  · refine lv_aload_n hx hb dX10_fits_25 rfl (lv_at hl 2 rfl) ?_
    refine gf_X10_7 S hK hP h0 dX10_fits_26 hf (fun x46 hx46 hf => ?_)
    refine lv_aload_n hx hb dX10_fits_29 rfl (lv_at hl 2 rfl) ?_
    refine lv_iload hx hb dX10_fits_30 (lv_at hl 0 rfl) ?_
    refine r_callV (As := [.int x3]) (rest := [.ref (ad x46)]) S hK hE hst hP hS h0 (by decide) rfl (cw_X10_87 ht ⟨Nat.le_of_ble_eq_true rfl, Nat.le_of_ble_eq_true rfl⟩) rfl hl.1 rfl (Nat.le_of_ble_eq_true rfl) dX10_fits_32 z2 (fun _ _ h => c_X10_figureAt hG  h0 h) hf (fun x47 M H locs hP hS bx47 hf => ?_)
    refine lv_iconst (v := 2) hx hb dX10_fits_35 (by decide) ?_
    refine lv_iadd hx hb dX10_fits_36 ?_
    refine r_iald S hK hP hx46 dX10_fits_37 hf (fun x48 hf => ?_)
    exact J5 x48 M H locs ls (lv_sub hl [2, 3, 4, 1, 0] rfl) hP hS hf
  · refine lv_iconst (v := 0) hx hb dX10_fits_21 (by decide) ?_
    refine lv_goto (tgt := 38) hx hb dX10_fits_22 (by decide) ?_
    exact J5 0 M H locs ls (lv_sub hl [2, 3, 4, 1, 0] rfl) hP hS hf
def f_X10_priceOf (p0 : Int32) (p1 : Int32) (M : Mem) : Option (Int32 × Mem) :=
  if p0 = 1 then
    some (1, M)
  else
  if p0 = 2 then
    some (3, M)
  else
  if p0 = 3 then
    some (4, M)
  else
  if p0 = 4 then
    some (2, M)
  else
  if p0 = 5 then
    some (8, M)
  else
  if p0 = 6 then
    some (20, M)
  else
  if p0 = 7 then
    some ((20 + (p1 / 100)), M)
  else
  some (5, M)
def rm_X10_priceOf : Room := { frames := 0, cells := 0, slots := 0, locals := 0 }
set_option maxHeartbeats 4000000 in
set_option maxRecDepth 100000 in
theorem c_X10_priceOf {l : Launch} {D : va_G} {K : Ks} {ad : Nat → Nat} {A : Nat → Prop} (hG : Gok G2 ad A) {p0 : Int32} {p1 : Int32}  {M : Mem} {r : Int32} {M' : Mem} (hf : f_X10_priceOf p0 p1 M = some (r, M')) : Ct l E2 D K G2 ad A yX10_priceOf (ws_of yX10_priceOf cX10_priceOf 2 (some .int)) rm_X10_priceOf .int [.int p0, .int p1] M r M' := by
  have hst : Est A E2 := est2
  refine Ct.ofW (by decide) (Nat.le_of_ble_eq_true rfl) ?_
  intro p e s m args below meth c Q H locs ls S hK hE hP hS hl hret
  have hx := S.1
  have hb := S.2.1
  have hown := S.2.2.2.1
  have ht := S.2.2.2.2
  have hl : lv_has ls 2 [(0, .int p0), (1, .int p1)] := hl
  unfold f_X10_priceOf at hf
  refine lv_iload_n hx hb dX10_priceOf_0 rfl (lv_at hl 0 rfl) ?_
  refine r_case hf (fun e1 hf => ?_) (fun n2 hf => ?_)
  · refine lv_tableIn (x := p0) (tgt := 44) hx hb dX10_priceOf_1 (by rw [e1]; decide) (by rw [e1]; decide) (by rw [e1]; rfl) (by decide) ?_
    refine lv_iconst (v := 1) hx hb dX10_priceOf_44 (by decide) ?_
    exact hret _ _ _ _ _ _ dX10_priceOf_45 hP hS rfl hf
  refine r_case hf (fun e3 hf => ?_) (fun n4 hf => ?_)
  · refine lv_tableIn (x := p0) (tgt := 46) hx hb dX10_priceOf_1 (by rw [e3]; decide) (by rw [e3]; decide) (by rw [e3]; rfl) (by decide) ?_
    refine lv_iconst (v := 3) hx hb dX10_priceOf_46 (by decide) ?_
    exact hret _ _ _ _ _ _ dX10_priceOf_47 hP hS rfl hf
  refine r_case hf (fun e5 hf => ?_) (fun n6 hf => ?_)
  · refine lv_tableIn (x := p0) (tgt := 48) hx hb dX10_priceOf_1 (by rw [e5]; decide) (by rw [e5]; decide) (by rw [e5]; rfl) (by decide) ?_
    refine lv_iconst (v := 4) hx hb dX10_priceOf_48 (by decide) ?_
    exact hret _ _ _ _ _ _ dX10_priceOf_49 hP hS rfl hf
  refine r_case hf (fun e7 hf => ?_) (fun n8 hf => ?_)
  · refine lv_tableIn (x := p0) (tgt := 50) hx hb dX10_priceOf_1 (by rw [e7]; decide) (by rw [e7]; decide) (by rw [e7]; rfl) (by decide) ?_
    refine lv_iconst (v := 2) hx hb dX10_priceOf_50 (by decide) ?_
    exact hret _ _ _ _ _ _ dX10_priceOf_51 hP hS rfl hf
  refine r_case hf (fun e9 hf => ?_) (fun n10 hf => ?_)
  · refine lv_tableIn (x := p0) (tgt := 52) hx hb dX10_priceOf_1 (by rw [e9]; decide) (by rw [e9]; decide) (by rw [e9]; rfl) (by decide) ?_
    refine lv_bipush (v := 8) hx hb dX10_priceOf_52 (by decide) ?_
    exact hret _ _ _ _ _ _ dX10_priceOf_54 hP hS rfl hf
  refine r_case hf (fun e11 hf => ?_) (fun n12 hf => ?_)
  · refine lv_tableIn (x := p0) (tgt := 55) hx hb dX10_priceOf_1 (by rw [e11]; decide) (by rw [e11]; decide) (by rw [e11]; rfl) (by decide) ?_
    refine lv_bipush (v := 20) hx hb dX10_priceOf_55 (by decide) ?_
    exact hret _ _ _ _ _ _ dX10_priceOf_57 hP hS rfl hf
  refine r_case hf (fun e13 hf => ?_) (fun n14 hf => ?_)
  · refine lv_tableIn (x := p0) (tgt := 58) hx hb dX10_priceOf_1 (by rw [e13]; decide) (by rw [e13]; decide) (by rw [e13]; rfl) (by decide) ?_
    refine lv_bipush (v := 20) hx hb dX10_priceOf_58 (by decide) ?_
    refine lv_iload_n hx hb dX10_priceOf_60 rfl (lv_at hl 1 rfl) ?_
    refine lv_bipush (v := 100) hx hb dX10_priceOf_61 (by decide) ?_
    refine lv_idiv hx hb dX10_priceOf_63 (by decide) ?_
    refine lv_iadd hx hb dX10_priceOf_64 ?_
    exact hret _ _ _ _ _ _ dX10_priceOf_65 hP hS rfl hf
  refine lv_tableOut (x := p0) (tgt := 66) hx hb dX10_priceOf_1 (by have q0 := lv_neT (a := 1) n2 (by decide); have q1 := lv_neT (a := 2) n4 (by decide); have q2 := lv_neT (a := 3) n6 (by decide); have q3 := lv_neT (a := 4) n8 (by decide); have q4 := lv_neT (a := 5) n10 (by decide); have q5 := lv_neT (a := 6) n12 (by decide); have q6 := lv_neT (a := 7) n14 (by decide); omega) (by decide) ?_
  refine lv_iconst (v := 5) hx hb dX10_priceOf_66 (by decide) ?_
  exact hret _ _ _ _ _ _ dX10_priceOf_67 hP hS rfl hf
theorem cw_X10_141 {R : Room} {s : State} {args : Array Value} (ht : ∀ w ∈ Tw, w.before args s = true) (hR : rm_X10_orNone.frames + 1 ≤ R.frames ∧ 8 + (1 + 11) + rm_X10_orNone.locals ≤ R.locals) : CallB R s args RX10 141 yX10_orNone cX10_orNone 1 (some .int) (ws_of yX10_orNone cX10_orNone 1 (some .int)) rm_X10_orNone 0 0 1 ∧ (Cond.static yX10_orNone).before args s = true := cw_S 1 ht k_1265 k_1266 k_73 k_1267 (by decide +kernel) rfl rfl hR
theorem cw_X10_144 {R : Room} {s : State} {args : Array Value} (ht : ∀ w ∈ Tw, w.before args s = true) (hR : rm_X10_fits.frames + 1 ≤ R.frames ∧ 8 + (7 + 11) + rm_X10_fits.locals ≤ R.locals) : CallW R s args RX10 RX10 144 yX10_fits cX10_fits 7 (some .boolean) (ws_of yX10_fits cX10_fits 7 (some .boolean)) rm_X10_fits 0 0 2 := cw_V 2 ht k_1269 k_1271 k_23 k_73 k_1272 (by decide +kernel) rfl rfl hR
theorem cw_X10_148 {R : Room} {s : State} {args : Array Value} (ht : ∀ w ∈ Tw, w.before args s = true) (hR : rm_X10_priceOf.frames + 1 ≤ R.frames ∧ 8 + (2 + 11) + rm_X10_priceOf.locals ≤ R.locals) : CallB R s args RX10 148 yX10_priceOf cX10_priceOf 2 (some .int) (ws_of yX10_priceOf cX10_priceOf 2 (some .int)) rm_X10_priceOf 0 0 2 ∧ (Cond.static yX10_priceOf).before args s = true := cw_S 2 ht k_1312 k_1313 k_73 k_1314 (by decide +kernel) rfl rfl hR
def f_X10_told (o : Nat) (p1 : Int32) (p2 : Int32) (M : Mem) : Option (Int32 × Mem) :=
  bd (f_X10_isFigure o p1 M) fun x1 M =>
  if x1 = 0 then
    some ((-1000000001), M)
  else
    bd (f_X10_figureAt o p1 M) fun x2 M =>
    if p2 = 0 then
      vv (grf G2 o 0) fun x3 =>
      ld M x3 (x2 + p2) 3510 fun x4 =>
      some (x4, M)
    else
    if p2 = 1 then
      vv (grf G2 o 0) fun x7 =>
      ld M x7 (x2 + p2) 3510 fun x8 =>
      some (x8, M)
    else
    if p2 = 2 then
      vv (grf G2 o 0) fun x11 =>
      ld M x11 (x2 + p2) 3510 fun x12 =>
      some (x12, M)
    else
    if p2 = 3 then
      vv (grf G2 o 0) fun x15 =>
      ld M x15 (x2 + p2) 3510 fun x16 =>
      some (x16, M)
    else
    if p2 = 4 then
      vv (grf G2 o 0) fun x19 =>
      ld M x19 (x2 + 4) 3510 fun x20 =>
      bd (f_X10_orNone x20 M) fun x21 M =>
      some (x21, M)
    else
    if p2 = 5 then
      vv (grf G2 o 0) fun x24 =>
      ld M x24 (x2 + 1) 3510 fun x25 =>
      bd (f_X10_fits o p1 x25 M) fun x26 M =>
      if x26 = 0 then
        some (0, M)
      else
        some (1, M)
    else
    if p2 = 6 then
      vv (grf G2 o 0) fun x29 =>
      ld M x29 (x2 + 1) 3510 fun x30 =>
      vv (grf G2 o 0) fun x31 =>
      ld M x31 (x2 + 3) 3510 fun x32 =>
      bd (f_X10_priceOf x30 x32 M) fun x33 M =>
      some (x33, M)
    else
    if p2 = 7 then
      bd (f_X10_spreadOf o p1 M) fun x36 M =>
      some (x36, M)
    else
    if p2 = 8 then
      vv (grf G2 o 0) fun x39 =>
      ld M x39 x2 3510 fun x40 =>
      bd (f_X10_counts o x40 M) fun x41 M =>
      if x41 < 0 then
        some ((-1000000005), M)
      else
        bd (f_X10_workedOf o p1 M) fun x42 M =>
        some (x42, M)
    else
    if p2 = 9 then
      vv (grf G2 o 0) fun x45 =>
      ld M x45 (x2 + 5) 3510 fun x46 =>
      bd (f_X10_orNone x46 M) fun x47 M =>
      some (x47, M)
    else
    if p2 = 10 then
      bd (f_X10_yearOf o p1 M) fun x50 M =>
      some (x50, M)
    else
    some ((-1000000001), M)
def rm_X10_told : Room := { frames := 5, cells := 0, slots := 0, locals := 117 }
set_option maxHeartbeats 4000000 in
set_option maxRecDepth 100000 in
theorem c_X10_told {l : Launch} {D : va_G} {K : Ks} {ad : Nat → Nat} {A : Nat → Prop} (hG : Gok G2 ad A) {o : Nat} {p1 : Int32} {p2 : Int32} (h0 : gcl G2 o = 10) {M : Mem} {r : Int32} {M' : Mem} (hf : f_X10_told o p1 p2 M = some (r, M')) : Ct l E2 D K G2 ad A yX10_told (ws_of yX10_told cX10_told 4 (some .int)) rm_X10_told .int [.ref (ad o), .int p1, .int p2] M r M' := by
  have hst : Est A E2 := est2
  refine Ct.ofW (by decide) (Nat.le_of_ble_eq_true rfl) ?_
  intro p e s m args below meth c Q H locs ls S hK hE hP hS hl hret
  have hx := S.1
  have hb := S.2.1
  have hown := S.2.2.2.1
  have ht := S.2.2.2.2
  have hl : lv_has ls 4 [(0, .ref (ad o)), (1, .int p1), (2, .int p2)] := hl
  unfold f_X10_told at hf
  refine lv_aload_n hx hb dX10_told_0 rfl (lv_at hl 0 rfl) ?_
  refine lv_iload_n hx hb dX10_told_1 rfl (lv_at hl 1 rfl) ?_
  refine r_callV (As := [.int p1]) (rest := []) S hK hE hst hP hS h0 (by decide) rfl (cw_X10_102 ht ⟨Nat.le_of_ble_eq_true rfl, Nat.le_of_ble_eq_true rfl⟩) rfl hl.1 rfl (Nat.le_of_ble_eq_true rfl) dX10_told_2 z2 (fun _ _ h => c_X10_isFigure hG  h0 h) hf (fun x1 M H locs hP hS bx1 hf => ?_)
  refine r_if_ne (tgt := 11) S dX10_told_5 (by decide) hf (fun hf => ?_) (fun hf => ?_)
  · refine lv_aload_n hx hb dX10_told_11 rfl (lv_at hl 0 rfl) ?_
    refine lv_iload_n hx hb dX10_told_12 rfl (lv_at hl 1 rfl) ?_
    refine r_callV (As := [.int p1]) (rest := []) S hK hE hst hP hS h0 (by decide) rfl (cw_X10_87 ht ⟨Nat.le_of_ble_eq_true rfl, Nat.le_of_ble_eq_true rfl⟩) rfl hl.1 rfl (Nat.le_of_ble_eq_true rfl) dX10_told_13 z2 (fun _ _ h => c_X10_figureAt hG  h0 h) hf (fun x2 M H locs hP hS bx2 hf => ?_)
    refine lv_istore_n (lv' := [(3, .int x2), (0, .ref (ad o)), (1, .int p1), (2, .int p2)]) hx hb dX10_told_16 rfl hl (by decide) rfl (fun ls hl => ?_)
    refine lv_iload_n hx hb dX10_told_17 rfl (lv_at hl 3 rfl) ?_
    refine r_case hf (fun e5 hf => ?_) (fun n6 hf => ?_)
    · refine lv_tableIn (x := p2) (tgt := 76) hx hb dX10_told_18 (by rw [e5]; decide) (by rw [e5]; decide) (by rw [e5]; rfl) (by decide) ?_
      refine lv_aload_n hx hb dX10_told_76 rfl (lv_at hl 1 rfl) ?_
      refine gf_X10_7 S hK hP h0 dX10_told_77 hf (fun x3 hx3 hf => ?_)
      refine lv_iload_n hx hb dX10_told_80 rfl (lv_at hl 0 rfl) ?_
      refine lv_iload_n hx hb dX10_told_81 rfl (lv_at hl 3 rfl) ?_
      refine lv_iadd hx hb dX10_told_82 ?_
      refine r_iald S hK hP hx3 dX10_told_83 hf (fun x4 hf => ?_)
      exact hret _ _ _ _ _ _ dX10_told_84 hP hS rfl hf
    refine r_case hf (fun e9 hf => ?_) (fun n10 hf => ?_)
    · refine lv_tableIn (x := p2) (tgt := 76) hx hb dX10_told_18 (by rw [e9]; decide) (by rw [e9]; decide) (by rw [e9]; rfl) (by decide) ?_
      refine lv_aload_n hx hb dX10_told_76 rfl (lv_at hl 1 rfl) ?_
      refine gf_X10_7 S hK hP h0 dX10_told_77 hf (fun x7 hx7 hf => ?_)
      refine lv_iload_n hx hb dX10_told_80 rfl (lv_at hl 0 rfl) ?_
      refine lv_iload_n hx hb dX10_told_81 rfl (lv_at hl 3 rfl) ?_
      refine lv_iadd hx hb dX10_told_82 ?_
      refine r_iald S hK hP hx7 dX10_told_83 hf (fun x8 hf => ?_)
      exact hret _ _ _ _ _ _ dX10_told_84 hP hS rfl hf
    refine r_case hf (fun e13 hf => ?_) (fun n14 hf => ?_)
    · refine lv_tableIn (x := p2) (tgt := 76) hx hb dX10_told_18 (by rw [e13]; decide) (by rw [e13]; decide) (by rw [e13]; rfl) (by decide) ?_
      refine lv_aload_n hx hb dX10_told_76 rfl (lv_at hl 1 rfl) ?_
      refine gf_X10_7 S hK hP h0 dX10_told_77 hf (fun x11 hx11 hf => ?_)
      refine lv_iload_n hx hb dX10_told_80 rfl (lv_at hl 0 rfl) ?_
      refine lv_iload_n hx hb dX10_told_81 rfl (lv_at hl 3 rfl) ?_
      refine lv_iadd hx hb dX10_told_82 ?_
      refine r_iald S hK hP hx11 dX10_told_83 hf (fun x12 hf => ?_)
      exact hret _ _ _ _ _ _ dX10_told_84 hP hS rfl hf
    refine r_case hf (fun e17 hf => ?_) (fun n18 hf => ?_)
    · refine lv_tableIn (x := p2) (tgt := 76) hx hb dX10_told_18 (by rw [e17]; decide) (by rw [e17]; decide) (by rw [e17]; rfl) (by decide) ?_
      refine lv_aload_n hx hb dX10_told_76 rfl (lv_at hl 1 rfl) ?_
      refine gf_X10_7 S hK hP h0 dX10_told_77 hf (fun x15 hx15 hf => ?_)
      refine lv_iload_n hx hb dX10_told_80 rfl (lv_at hl 0 rfl) ?_
      refine lv_iload_n hx hb dX10_told_81 rfl (lv_at hl 3 rfl) ?_
      refine lv_iadd hx hb dX10_told_82 ?_
      refine r_iald S hK hP hx15 dX10_told_83 hf (fun x16 hf => ?_)
      exact hret _ _ _ _ _ _ dX10_told_84 hP hS rfl hf
    refine r_case hf (fun e22 hf => ?_) (fun n23 hf => ?_)
    · refine lv_tableIn (x := p2) (tgt := 85) hx hb dX10_told_18 (by rw [e22]; decide) (by rw [e22]; decide) (by rw [e22]; rfl) (by decide) ?_
      refine lv_aload_n hx hb dX10_told_85 rfl (lv_at hl 1 rfl) ?_
      refine gf_X10_7 S hK hP h0 dX10_told_86 hf (fun x19 hx19 hf => ?_)
      refine lv_iload_n hx hb dX10_told_89 rfl (lv_at hl 0 rfl) ?_
      refine lv_iconst (v := 4) hx hb dX10_told_90 (by decide) ?_
      refine lv_iadd hx hb dX10_told_91 ?_
      refine r_iald S hK hP hx19 dX10_told_92 hf (fun x20 hf => ?_)
      refine r_callS (As := [.int x20]) (rest := []) S hK hE hst hP hS (cw_X10_141 ht ⟨Nat.le_of_ble_eq_true rfl, Nat.le_of_ble_eq_true rfl⟩) rfl hl.1 rfl (Nat.le_of_ble_eq_true rfl) dX10_told_93 z2 (fun _ _ h => c_X10_orNone hG  h) hf (fun x21 M H locs hP hS bx21 hf => ?_)
      exact hret _ _ _ _ _ _ dX10_told_96 hP hS rfl hf
    refine r_case hf (fun e27 hf => ?_) (fun n28 hf => ?_)
    · refine lv_tableIn (x := p2) (tgt := 97) hx hb dX10_told_18 (by rw [e27]; decide) (by rw [e27]; decide) (by rw [e27]; rfl) (by decide) ?_
      refine lv_aload_n hx hb dX10_told_97 rfl (lv_at hl 1 rfl) ?_
      refine lv_iload_n hx hb dX10_told_98 rfl (lv_at hl 2 rfl) ?_
      refine lv_aload_n hx hb dX10_told_99 rfl (lv_at hl 1 rfl) ?_
      refine gf_X10_7 S hK hP h0 dX10_told_100 hf (fun x24 hx24 hf => ?_)
      refine lv_iload_n hx hb dX10_told_103 rfl (lv_at hl 0 rfl) ?_
      refine lv_iconst (v := 1) hx hb dX10_told_104 (by decide) ?_
      refine lv_iadd hx hb dX10_told_105 ?_
      refine r_iald S hK hP hx24 dX10_told_106 hf (fun x25 hf => ?_)
      refine r_callV (As := [.int p1, .int x25]) (rest := []) S hK hE hst hP hS h0 (by decide) rfl (cw_X10_144 ht ⟨Nat.le_of_ble_eq_true rfl, Nat.le_of_ble_eq_true rfl⟩) rfl hl.1 rfl (Nat.le_of_ble_eq_true rfl) dX10_told_107 z2 (fun _ _ h => c_X10_fits hG  h0 h) hf (fun x26 M H locs hP hS bx26 hf => ?_)
      refine r_if_eq (tgt := 117) S dX10_told_110 (by decide) hf (fun hf => ?_) (fun hf => ?_)
      · refine lv_iconst (v := 0) hx hb dX10_told_117 (by decide) ?_
        exact hret _ _ _ _ _ _ dX10_told_118 hP hS rfl hf
      · refine lv_iconst (v := 1) hx hb dX10_told_113 (by decide) ?_
        refine lv_goto (tgt := 118) hx hb dX10_told_114 (by decide) ?_
        exact hret _ _ _ _ _ _ dX10_told_118 hP hS rfl hf
    refine r_case hf (fun e34 hf => ?_) (fun n35 hf => ?_)
    · refine lv_tableIn (x := p2) (tgt := 119) hx hb dX10_told_18 (by rw [e34]; decide) (by rw [e34]; decide) (by rw [e34]; rfl) (by decide) ?_
      refine lv_aload_n hx hb dX10_told_119 rfl (lv_at hl 1 rfl) ?_
      refine gf_X10_7 S hK hP h0 dX10_told_120 hf (fun x29 hx29 hf => ?_)
      refine lv_iload_n hx hb dX10_told_123 rfl (lv_at hl 0 rfl) ?_
      refine lv_iconst (v := 1) hx hb dX10_told_124 (by decide) ?_
      refine lv_iadd hx hb dX10_told_125 ?_
      refine r_iald S hK hP hx29 dX10_told_126 hf (fun x30 hf => ?_)
      refine lv_aload_n hx hb dX10_told_127 rfl (lv_at hl 1 rfl) ?_
      refine gf_X10_7 S hK hP h0 dX10_told_128 hf (fun x31 hx31 hf => ?_)
      refine lv_iload_n hx hb dX10_told_131 rfl (lv_at hl 0 rfl) ?_
      refine lv_iconst (v := 3) hx hb dX10_told_132 (by decide) ?_
      refine lv_iadd hx hb dX10_told_133 ?_
      refine r_iald S hK hP hx31 dX10_told_134 hf (fun x32 hf => ?_)
      refine r_callS (As := [.int x30, .int x32]) (rest := []) S hK hE hst hP hS (cw_X10_148 ht ⟨Nat.le_of_ble_eq_true rfl, Nat.le_of_ble_eq_true rfl⟩) rfl hl.1 rfl (Nat.le_of_ble_eq_true rfl) dX10_told_135 z2 (fun _ _ h => c_X10_priceOf hG  h) hf (fun x33 M H locs hP hS bx33 hf => ?_)
      exact hret _ _ _ _ _ _ dX10_told_138 hP hS rfl hf
    refine r_case hf (fun e37 hf => ?_) (fun n38 hf => ?_)
    · refine lv_tableIn (x := p2) (tgt := 139) hx hb dX10_told_18 (by rw [e37]; decide) (by rw [e37]; decide) (by rw [e37]; rfl) (by decide) ?_
      refine lv_aload_n hx hb dX10_told_139 rfl (lv_at hl 1 rfl) ?_
      refine lv_iload_n hx hb dX10_told_140 rfl (lv_at hl 2 rfl) ?_
      refine r_callV (As := [.int p1]) (rest := []) S hK hE hst hP hS h0 (by decide) rfl (cw_X10_128 ht ⟨Nat.le_of_ble_eq_true rfl, Nat.le_of_ble_eq_true rfl⟩) rfl hl.1 rfl (Nat.le_of_ble_eq_true rfl) dX10_told_141 z2 (fun _ _ h => c_X10_spreadOf hG  h0 h) hf (fun x36 M H locs hP hS bx36 hf => ?_)
      exact hret _ _ _ _ _ _ dX10_told_144 hP hS rfl hf
    refine r_case hf (fun e43 hf => ?_) (fun n44 hf => ?_)
    · refine lv_tableIn (x := p2) (tgt := 145) hx hb dX10_told_18 (by rw [e43]; decide) (by rw [e43]; decide) (by rw [e43]; rfl) (by decide) ?_
      refine lv_aload_n hx hb dX10_told_145 rfl (lv_at hl 1 rfl) ?_
      refine lv_aload_n hx hb dX10_told_146 rfl (lv_at hl 1 rfl) ?_
      refine gf_X10_7 S hK hP h0 dX10_told_147 hf (fun x39 hx39 hf => ?_)
      refine lv_iload_n hx hb dX10_told_150 rfl (lv_at hl 0 rfl) ?_
      refine r_iald S hK hP hx39 dX10_told_151 hf (fun x40 hf => ?_)
      refine r_callV (As := [.int x40]) (rest := []) S hK hE hst hP hS h0 (by decide) rfl (cw_X10_112 ht ⟨Nat.le_of_ble_eq_true rfl, Nat.le_of_ble_eq_true rfl⟩) rfl hl.1 rfl (Nat.le_of_ble_eq_true rfl) dX10_told_152 z2 (fun _ _ h => c_X10_counts hG  h0 h) hf (fun x41 M H locs hP hS bx41 hf => ?_)
      refine r_if_ge (tgt := 163) S dX10_told_155 (by decide) hf (fun hf => ?_) (fun hf => ?_)
      · refine lv_aload_n hx hb dX10_told_163 rfl (lv_at hl 1 rfl) ?_
        refine lv_iload_n hx hb dX10_told_164 rfl (lv_at hl 2 rfl) ?_
        refine r_callV (As := [.int p1]) (rest := []) S hK hE hst hP hS h0 (by decide) rfl (cw_X10_131 ht ⟨Nat.le_of_ble_eq_true rfl, Nat.le_of_ble_eq_true rfl⟩) rfl hl.1 rfl (Nat.le_of_ble_eq_true rfl) dX10_told_165 z2 (fun _ _ h => c_X10_workedOf hG  h0 h) hf (fun x42 M H locs hP hS bx42 hf => ?_)
        exact hret _ _ _ _ _ _ dX10_told_168 hP hS rfl hf
      · refine lv_ldc (v := (-1000000005)) hx hb hown (ht _ k_1268) dX10_told_158 ?_
        refine lv_goto (tgt := 168) hx hb dX10_told_160 (by decide) ?_
        exact hret _ _ _ _ _ _ dX10_told_168 hP hS rfl hf
    refine r_case hf (fun e48 hf => ?_) (fun n49 hf => ?_)
    · refine lv_tableIn (x := p2) (tgt := 169) hx hb dX10_told_18 (by rw [e48]; decide) (by rw [e48]; decide) (by rw [e48]; rfl) (by decide) ?_
      refine lv_aload_n hx hb dX10_told_169 rfl (lv_at hl 1 rfl) ?_
      refine gf_X10_7 S hK hP h0 dX10_told_170 hf (fun x45 hx45 hf => ?_)
      refine lv_iload_n hx hb dX10_told_173 rfl (lv_at hl 0 rfl) ?_
      refine lv_iconst (v := 5) hx hb dX10_told_174 (by decide) ?_
      refine lv_iadd hx hb dX10_told_175 ?_
      refine r_iald S hK hP hx45 dX10_told_176 hf (fun x46 hf => ?_)
      refine r_callS (As := [.int x46]) (rest := []) S hK hE hst hP hS (cw_X10_141 ht ⟨Nat.le_of_ble_eq_true rfl, Nat.le_of_ble_eq_true rfl⟩) rfl hl.1 rfl (Nat.le_of_ble_eq_true rfl) dX10_told_177 z2 (fun _ _ h => c_X10_orNone hG  h) hf (fun x47 M H locs hP hS bx47 hf => ?_)
      exact hret _ _ _ _ _ _ dX10_told_180 hP hS rfl hf
    refine r_case hf (fun e51 hf => ?_) (fun n52 hf => ?_)
    · refine lv_tableIn (x := p2) (tgt := 181) hx hb dX10_told_18 (by rw [e51]; decide) (by rw [e51]; decide) (by rw [e51]; rfl) (by decide) ?_
      refine lv_aload_n hx hb dX10_told_181 rfl (lv_at hl 1 rfl) ?_
      refine lv_iload_n hx hb dX10_told_182 rfl (lv_at hl 2 rfl) ?_
      refine r_callV (As := [.int p1]) (rest := []) S hK hE hst hP hS h0 (by decide) rfl (cw_X10_122 ht ⟨Nat.le_of_ble_eq_true rfl, Nat.le_of_ble_eq_true rfl⟩) rfl hl.1 rfl (Nat.le_of_ble_eq_true rfl) dX10_told_183 z2 (fun _ _ h => c_X10_yearOf hG  h0 h) hf (fun x50 M H locs hP hS bx50 hf => ?_)
      exact hret _ _ _ _ _ _ dX10_told_186 hP hS rfl hf
    refine lv_tableOut (x := p2) (tgt := 187) hx hb dX10_told_18 (by have q0 := lv_neT (a := 0) n6 (by decide); have q1 := lv_neT (a := 1) n10 (by decide); have q2 := lv_neT (a := 2) n14 (by decide); have q3 := lv_neT (a := 3) n18 (by decide); have q4 := lv_neT (a := 4) n23 (by decide); have q5 := lv_neT (a := 5) n28 (by decide); have q6 := lv_neT (a := 6) n35 (by decide); have q7 := lv_neT (a := 7) n38 (by decide); have q8 := lv_neT (a := 8) n44 (by decide); have q9 := lv_neT (a := 9) n49 (by decide); have q10 := lv_neT (a := 10) n52 (by decide); omega) (by decide) ?_
    refine lv_ldc (v := (-1000000001)) hx hb hown (ht _ k_1232) dX10_told_187 ?_
    exact hret _ _ _ _ _ _ dX10_told_189 hP hS rfl hf
  · refine lv_ldc (v := (-1000000001)) hx hb hown (ht _ k_1232) dX10_told_8 ?_
    exact hret _ _ _ _ _ _ dX10_told_10 hP hS rfl hf
def f_X10_isOf (p0 : Int32) (p1 : Int32) (M : Mem) : Option (Int32 × Mem) :=
  if p1 = 0 then
    some (1, M)
  else
    if p0 = p1 then
      some (1, M)
    else
      jn (fun (M : Mem) =>
        if p1 = 6 then
          if p0 = 7 then
            some (1, M)
          else
            some (0, M)
        else
          some (0, M)
      ) fun k1 =>
      if p1 = 2 then
        if p0 = 3 then
          some (1, M)
        else
          k1 M
      else
        k1 M
def rm_X10_isOf : Room := { frames := 0, cells := 0, slots := 0, locals := 0 }
set_option maxHeartbeats 4000000 in
set_option maxRecDepth 100000 in
theorem c_X10_isOf {l : Launch} {D : va_G} {K : Ks} {ad : Nat → Nat} {A : Nat → Prop} (hG : Gok G2 ad A) {p0 : Int32} {p1 : Int32}  {M : Mem} {r : Int32} {M' : Mem} (hf : f_X10_isOf p0 p1 M = some (r, M')) : Ct l E2 D K G2 ad A yX10_isOf (ws_of yX10_isOf cX10_isOf 2 (some .boolean)) rm_X10_isOf .boolean [.int p0, .int p1] M r M' := by
  have hst : Est A E2 := est2
  refine Ct.ofW (by decide) (Nat.le_of_ble_eq_true rfl) ?_
  intro p e s m args below meth c Q H locs ls S hK hE hP hS hl hret
  have hx := S.1
  have hb := S.2.1
  have hown := S.2.2.2.1
  have ht := S.2.2.2.2
  have hl : lv_has ls 2 [(0, .int p0), (1, .int p1)] := hl
  unfold f_X10_isOf at hf
  refine lv_iload_n hx hb dX10_isOf_0 rfl (lv_at hl 1 rfl) ?_
  refine r_if_eq (tgt := 31) S dX10_isOf_1 (by decide) hf (fun hf => ?_) (fun hf => ?_)
  · refine lv_iconst (v := 1) hx hb dX10_isOf_31 (by decide) ?_
    refine lv_goto (tgt := 36) hx hb dX10_isOf_32 (by decide) ?_
    exact hret _ _ _ _ _ _ dX10_isOf_36 hP hS rfl hf
  · refine lv_iload_n hx hb dX10_isOf_4 rfl (lv_at hl 0 rfl) ?_
    refine lv_iload_n hx hb dX10_isOf_5 rfl (lv_at hl 1 rfl) ?_
    refine r_icmp_eq (tgt := 31) S dX10_isOf_6 (by decide) hf (fun hf => ?_) (fun hf => ?_)
    · refine lv_iconst (v := 1) hx hb dX10_isOf_31 (by decide) ?_
      refine lv_goto (tgt := 36) hx hb dX10_isOf_32 (by decide) ?_
      exact hret _ _ _ _ _ _ dX10_isOf_36 hP hS rfl hf
    · refine lv_iload_n hx hb dX10_isOf_9 rfl (lv_at hl 1 rfl) ?_
      refine lv_iconst (v := 2) hx hb dX10_isOf_10 (by decide) ?_
      obtain ⟨k1, hk1, hf⟩ := jn_w hf
      have J1 : ∀ (M : Mem) (H : Heap) (locs : List Loc) (ls : Array Slot), lv_has ls 2 [(0, .int p0), (1, .int p1)] → va_P D classes (gws K G2 ad M) H → va_S A s.heap H locs → k1 M = some (r, M') → W p l e rm_X10_isOf s m args below meth c H locs 0 0 Q (F0 m 19 ls []) := by
        intro M H locs ls hl hP hS hf
        rw [hk1] at hf
        refine lv_iload_n hx hb dX10_isOf_19 rfl (lv_at hl 1 rfl) ?_
        refine lv_bipush (v := 6) hx hb dX10_isOf_20 (by decide) ?_
        refine r_icmp_ne (tgt := 35) S dX10_isOf_22 (by decide) hf (fun hf => ?_) (fun hf => ?_)
        · refine lv_iconst (v := 0) hx hb dX10_isOf_35 (by decide) ?_
          exact hret _ _ _ _ _ _ dX10_isOf_36 hP hS rfl hf
        · refine lv_iload_n hx hb dX10_isOf_25 rfl (lv_at hl 0 rfl) ?_
          refine lv_bipush (v := 7) hx hb dX10_isOf_26 (by decide) ?_
          refine r_icmp_ne (tgt := 35) S dX10_isOf_28 (by decide) hf (fun hf => ?_) (fun hf => ?_)
          · refine lv_iconst (v := 0) hx hb dX10_isOf_35 (by decide) ?_
            exact hret _ _ _ _ _ _ dX10_isOf_36 hP hS rfl hf
          · refine lv_iconst (v := 1) hx hb dX10_isOf_31 (by decide) ?_
            refine lv_goto (tgt := 36) hx hb dX10_isOf_32 (by decide) ?_
            exact hret _ _ _ _ _ _ dX10_isOf_36 hP hS rfl hf
      refine r_icmp_ne (tgt := 19) S dX10_isOf_11 (by decide) hf (fun hf => ?_) (fun hf => ?_)
      · exact J1 M H locs ls (lv_sub hl [0, 1] rfl) hP hS hf
      · refine lv_iload_n hx hb dX10_isOf_14 rfl (lv_at hl 0 rfl) ?_
        refine lv_iconst (v := 3) hx hb dX10_isOf_15 (by decide) ?_
        refine r_icmp_eq (tgt := 31) S dX10_isOf_16 (by decide) hf (fun hf => ?_) (fun hf => ?_)
        · refine lv_iconst (v := 1) hx hb dX10_isOf_31 (by decide) ?_
          refine lv_goto (tgt := 36) hx hb dX10_isOf_32 (by decide) ?_
          exact hret _ _ _ _ _ _ dX10_isOf_36 hP hS rfl hf
        · exact J1 M H locs ls (lv_sub hl [0, 1] rfl) hP hS hf
theorem cw_X10_151 {R : Room} {s : State} {args : Array Value} (ht : ∀ w ∈ Tw, w.before args s = true) (hR : rm_X10_isOf.frames + 1 ≤ R.frames ∧ 8 + (2 + 11) + rm_X10_isOf.locals ≤ R.locals) : CallB R s args RX10 151 yX10_isOf cX10_isOf 2 (some .boolean) (ws_of yX10_isOf cX10_isOf 2 (some .boolean)) rm_X10_isOf 0 0 2 ∧ (Cond.static yX10_isOf).before args s = true := cw_S 2 ht k_1319 k_1320 k_73 k_1321 (by decide +kernel) rfl rfl hR
def f_X10_as (o : Nat) (p1 : Int32) (p2 : Int32) (M : Mem) : Option (Int32 × Mem) :=
  bd (f_X10_isFigure o p1 M) fun x1 M =>
  if x1 = 0 then
    some ((-1000000001), M)
  else
    bd (f_X10_isIn (Int32.toInt64 p2) 0 7 M) fun x2 M =>
    if x2 = 0 then
      some ((-1000000001), M)
    else
      vv (grf G2 o 0) fun x3 =>
      bd (f_X10_figureAt o p1 M) fun x4 M =>
      ld M x3 (x4 + 1) 3510 fun x5 =>
      bd (f_X10_isOf x5 p2 M) fun x6 M =>
      if x6 = 0 then
        some ((-1000000012), M)
      else
        vv (grf G2 o 0) fun x7 =>
        bd (f_X10_figureAt o p1 M) fun x8 M =>
        ld M x7 (x8 + 2) 3510 fun x9 =>
        some (x9, M)
def rm_X10_as : Room := { frames := 2, cells := 0, slots := 0, locals := 46 }
set_option maxHeartbeats 4000000 in
set_option maxRecDepth 100000 in
theorem c_X10_as {l : Launch} {D : va_G} {K : Ks} {ad : Nat → Nat} {A : Nat → Prop} (hG : Gok G2 ad A) {o : Nat} {p1 : Int32} {p2 : Int32} (h0 : gcl G2 o = 10) {M : Mem} {r : Int32} {M' : Mem} (hf : f_X10_as o p1 p2 M = some (r, M')) : Ct l E2 D K G2 ad A yX10_as (ws_of yX10_as cX10_as 3 (some .int)) rm_X10_as .int [.ref (ad o), .int p1, .int p2] M r M' := by
  have hst : Est A E2 := est2
  refine Ct.ofW (by decide) (Nat.le_of_ble_eq_true rfl) ?_
  intro p e s m args below meth c Q H locs ls S hK hE hP hS hl hret
  have hx := S.1
  have hb := S.2.1
  have hown := S.2.2.2.1
  have ht := S.2.2.2.2
  have hl : lv_has ls 3 [(0, .ref (ad o)), (1, .int p1), (2, .int p2)] := hl
  unfold f_X10_as at hf
  refine lv_aload_n hx hb dX10_as_0 rfl (lv_at hl 0 rfl) ?_
  refine lv_iload_n hx hb dX10_as_1 rfl (lv_at hl 1 rfl) ?_
  refine r_callV (As := [.int p1]) (rest := []) S hK hE hst hP hS h0 (by decide) rfl (cw_X10_102 ht ⟨Nat.le_of_ble_eq_true rfl, Nat.le_of_ble_eq_true rfl⟩) rfl hl.1 rfl (Nat.le_of_ble_eq_true rfl) dX10_as_2 z2 (fun _ _ h => c_X10_isFigure hG  h0 h) hf (fun x1 M H locs hP hS bx1 hf => ?_)
  refine r_if_eq (tgt := 20) S dX10_as_5 (by decide) hf (fun hf => ?_) (fun hf => ?_)
  · refine lv_ldc (v := (-1000000001)) hx hb hown (ht _ k_1232) dX10_as_20 ?_
    exact hret _ _ _ _ _ _ dX10_as_22 hP hS rfl hf
  · refine lv_iload_n hx hb dX10_as_8 rfl (lv_at hl 2 rfl) ?_
    refine lv_i2l (v := (Int32.toInt64 p2)) hx hb dX10_as_9 rfl ?_
    refine lv_lconst (v := 0) hx hb dX10_as_10 (by decide) ?_
    refine lv_ldc2 (v := 7) hx hb hown (ht _ k_1243) dX10_as_11 ?_
    refine r_callS (As := [.long (Int32.toInt64 p2), .long 0, .long 7]) (rest := []) S hK hE hst hP hS (cw_X10_74 ht ⟨Nat.le_of_ble_eq_true rfl, Nat.le_of_ble_eq_true rfl⟩) rfl hl.1 rfl (Nat.le_of_ble_eq_true rfl) dX10_as_14 z2 (fun _ _ h => c_X10_isIn hG  h) hf (fun x2 M H locs hP hS bx2 hf => ?_)
    refine r_if_ne (tgt := 23) S dX10_as_17 (by decide) hf (fun hf => ?_) (fun hf => ?_)
    · refine lv_aload_n hx hb dX10_as_23 rfl (lv_at hl 0 rfl) ?_
      refine gf_X10_7 S hK hP h0 dX10_as_24 hf (fun x3 hx3 hf => ?_)
      refine lv_aload_n hx hb dX10_as_27 rfl (lv_at hl 0 rfl) ?_
      refine lv_iload_n hx hb dX10_as_28 rfl (lv_at hl 1 rfl) ?_
      refine r_callV (As := [.int p1]) (rest := [.ref (ad x3)]) S hK hE hst hP hS h0 (by decide) rfl (cw_X10_87 ht ⟨Nat.le_of_ble_eq_true rfl, Nat.le_of_ble_eq_true rfl⟩) rfl hl.1 rfl (Nat.le_of_ble_eq_true rfl) dX10_as_29 z2 (fun _ _ h => c_X10_figureAt hG  h0 h) hf (fun x4 M H locs hP hS bx4 hf => ?_)
      refine lv_iconst (v := 1) hx hb dX10_as_32 (by decide) ?_
      refine lv_iadd hx hb dX10_as_33 ?_
      refine r_iald S hK hP hx3 dX10_as_34 hf (fun x5 hf => ?_)
      refine lv_iload_n hx hb dX10_as_35 rfl (lv_at hl 2 rfl) ?_
      refine r_callS (As := [.int x5, .int p2]) (rest := []) S hK hE hst hP hS (cw_X10_151 ht ⟨Nat.le_of_ble_eq_true rfl, Nat.le_of_ble_eq_true rfl⟩) rfl hl.1 rfl (Nat.le_of_ble_eq_true rfl) dX10_as_36 z2 (fun _ _ h => c_X10_isOf hG  h) hf (fun x6 M H locs hP hS bx6 hf => ?_)
      refine r_if_eq (tgt := 57) S dX10_as_39 (by decide) hf (fun hf => ?_) (fun hf => ?_)
      · refine lv_ldc (v := (-1000000012)) hx hb hown (ht _ k_1322) dX10_as_57 ?_
        exact hret _ _ _ _ _ _ dX10_as_59 hP hS rfl hf
      · refine lv_aload_n hx hb dX10_as_42 rfl (lv_at hl 0 rfl) ?_
        refine gf_X10_7 S hK hP h0 dX10_as_43 hf (fun x7 hx7 hf => ?_)
        refine lv_aload_n hx hb dX10_as_46 rfl (lv_at hl 0 rfl) ?_
        refine lv_iload_n hx hb dX10_as_47 rfl (lv_at hl 1 rfl) ?_
        refine r_callV (As := [.int p1]) (rest := [.ref (ad x7)]) S hK hE hst hP hS h0 (by decide) rfl (cw_X10_87 ht ⟨Nat.le_of_ble_eq_true rfl, Nat.le_of_ble_eq_true rfl⟩) rfl hl.1 rfl (Nat.le_of_ble_eq_true rfl) dX10_as_48 z2 (fun _ _ h => c_X10_figureAt hG  h0 h) hf (fun x8 M H locs hP hS bx8 hf => ?_)
        refine lv_iconst (v := 2) hx hb dX10_as_51 (by decide) ?_
        refine lv_iadd hx hb dX10_as_52 ?_
        refine r_iald S hK hP hx7 dX10_as_53 hf (fun x9 hf => ?_)
        refine lv_goto (tgt := 59) hx hb dX10_as_54 (by decide) ?_
        exact hret _ _ _ _ _ _ dX10_as_59 hP hS rfl hf
    · refine lv_ldc (v := (-1000000001)) hx hb hown (ht _ k_1232) dX10_as_20 ?_
      exact hret _ _ _ _ _ _ dX10_as_22 hP hS rfl hf
theorem cw_X10_155 {R : Room} {s : State} {args : Array Value} (ht : ∀ w ∈ Tw, w.before args s = true) (hR : rm_X10_becomes.frames + 1 ≤ R.frames ∧ 8 + (4 + 11) + rm_X10_becomes.locals ≤ R.locals) : CallW R s args RX10 RX10 155 yX10_becomes cX10_becomes 4 (some .int) (ws_of yX10_becomes cX10_becomes 4 (some .int)) rm_X10_becomes 0 0 2 := cw_V 2 ht k_1327 k_1329 k_31 k_73 k_1330 (by decide +kernel) rfl rfl hR
def f_X10_turns (o : Nat) (p1 : Int32) (p2 : Int32) (M : Mem) : Option (Int32 × Mem) :=
  bd (f_X10_isFigure o p1 M) fun x1 M =>
  if x1 = 0 then
    some ((-1000000001), M)
  else
    bd (f_X10_isIn (Int32.toInt64 p2) 0 7 M) fun x2 M =>
    if x2 = 0 then
      some ((-1000000001), M)
    else
      bd (f_X10_figureAt o p1 M) fun x3 M =>
      bd (f_X10_becomes o (x3 + 1) p2 M) fun x4 M =>
      some (x4, M)
def rm_X10_turns : Room := { frames := 2, cells := 0, slots := 0, locals := 46 }
set_option maxHeartbeats 4000000 in
set_option maxRecDepth 100000 in
theorem c_X10_turns {l : Launch} {D : va_G} {K : Ks} {ad : Nat → Nat} {A : Nat → Prop} (hG : Gok G2 ad A) {o : Nat} {p1 : Int32} {p2 : Int32} (h0 : gcl G2 o = 10) {M : Mem} {r : Int32} {M' : Mem} (hf : f_X10_turns o p1 p2 M = some (r, M')) : Ct l E2 D K G2 ad A yX10_turns (ws_of yX10_turns cX10_turns 3 (some .int)) rm_X10_turns .int [.ref (ad o), .int p1, .int p2] M r M' := by
  have hst : Est A E2 := est2
  refine Ct.ofW (by decide) (Nat.le_of_ble_eq_true rfl) ?_
  intro p e s m args below meth c Q H locs ls S hK hE hP hS hl hret
  have hx := S.1
  have hb := S.2.1
  have hown := S.2.2.2.1
  have ht := S.2.2.2.2
  have hl : lv_has ls 3 [(0, .ref (ad o)), (1, .int p1), (2, .int p2)] := hl
  unfold f_X10_turns at hf
  refine lv_aload_n hx hb dX10_turns_0 rfl (lv_at hl 0 rfl) ?_
  refine lv_iload_n hx hb dX10_turns_1 rfl (lv_at hl 1 rfl) ?_
  refine r_callV (As := [.int p1]) (rest := []) S hK hE hst hP hS h0 (by decide) rfl (cw_X10_102 ht ⟨Nat.le_of_ble_eq_true rfl, Nat.le_of_ble_eq_true rfl⟩) rfl hl.1 rfl (Nat.le_of_ble_eq_true rfl) dX10_turns_2 z2 (fun _ _ h => c_X10_isFigure hG  h0 h) hf (fun x1 M H locs hP hS bx1 hf => ?_)
  refine r_if_eq (tgt := 35) S dX10_turns_5 (by decide) hf (fun hf => ?_) (fun hf => ?_)
  · refine lv_ldc (v := (-1000000001)) hx hb hown (ht _ k_1232) dX10_turns_35 ?_
    exact hret _ _ _ _ _ _ dX10_turns_37 hP hS rfl hf
  · refine lv_iload_n hx hb dX10_turns_8 rfl (lv_at hl 2 rfl) ?_
    refine lv_i2l (v := (Int32.toInt64 p2)) hx hb dX10_turns_9 rfl ?_
    refine lv_lconst (v := 0) hx hb dX10_turns_10 (by decide) ?_
    refine lv_ldc2 (v := 7) hx hb hown (ht _ k_1243) dX10_turns_11 ?_
    refine r_callS (As := [.long (Int32.toInt64 p2), .long 0, .long 7]) (rest := []) S hK hE hst hP hS (cw_X10_74 ht ⟨Nat.le_of_ble_eq_true rfl, Nat.le_of_ble_eq_true rfl⟩) rfl hl.1 rfl (Nat.le_of_ble_eq_true rfl) dX10_turns_14 z2 (fun _ _ h => c_X10_isIn hG  h) hf (fun x2 M H locs hP hS bx2 hf => ?_)
    refine r_if_eq (tgt := 35) S dX10_turns_17 (by decide) hf (fun hf => ?_) (fun hf => ?_)
    · refine lv_ldc (v := (-1000000001)) hx hb hown (ht _ k_1232) dX10_turns_35 ?_
      exact hret _ _ _ _ _ _ dX10_turns_37 hP hS rfl hf
    · refine lv_aload_n hx hb dX10_turns_20 rfl (lv_at hl 0 rfl) ?_
      refine lv_aload_n hx hb dX10_turns_21 rfl (lv_at hl 0 rfl) ?_
      refine lv_iload_n hx hb dX10_turns_22 rfl (lv_at hl 1 rfl) ?_
      refine r_callV (As := [.int p1]) (rest := [.ref (ad o)]) S hK hE hst hP hS h0 (by decide) rfl (cw_X10_87 ht ⟨Nat.le_of_ble_eq_true rfl, Nat.le_of_ble_eq_true rfl⟩) rfl hl.1 rfl (Nat.le_of_ble_eq_true rfl) dX10_turns_23 z2 (fun _ _ h => c_X10_figureAt hG  h0 h) hf (fun x3 M H locs hP hS bx3 hf => ?_)
      refine lv_iconst (v := 1) hx hb dX10_turns_26 (by decide) ?_
      refine lv_iadd hx hb dX10_turns_27 ?_
      refine lv_iload_n hx hb dX10_turns_28 rfl (lv_at hl 2 rfl) ?_
      refine r_callV (As := [.int (x3 + 1), .int p2]) (rest := []) S hK hE hst hP hS h0 (by decide) rfl (cw_X10_155 ht ⟨Nat.le_of_ble_eq_true rfl, Nat.le_of_ble_eq_true rfl⟩) rfl hl.1 rfl (Nat.le_of_ble_eq_true rfl) dX10_turns_29 z2 (fun _ _ h => c_X10_becomes hG  h0 h) hf (fun x4 M H locs hP hS bx4 hf => ?_)
      refine lv_goto (tgt := 37) hx hb dX10_turns_32 (by decide) ?_
      exact hret _ _ _ _ _ _ dX10_turns_37 hP hS rfl hf
def f_X10_base (o : Nat) (p1 : Int32) (M : Mem) : Option (Int32 × Mem) :=
  bd (f_X10_isIn (Int32.toInt64 p1) 0 9999 M) fun x1 M =>
  if x1 = 0 then
    some ((-1000000001), M)
  else
    bd (f_X10_becomes o 8 p1 M) fun x2 M =>
    some (x2, M)
def rm_X10_base : Room := { frames := 1, cells := 0, slots := 0, locals := 25 }
set_option maxHeartbeats 4000000 in
set_option maxRecDepth 100000 in
theorem c_X10_base {l : Launch} {D : va_G} {K : Ks} {ad : Nat → Nat} {A : Nat → Prop} (hG : Gok G2 ad A) {o : Nat} {p1 : Int32} (h0 : gcl G2 o = 10) {M : Mem} {r : Int32} {M' : Mem} (hf : f_X10_base o p1 M = some (r, M')) : Ct l E2 D K G2 ad A yX10_base (ws_of yX10_base cX10_base 2 (some .int)) rm_X10_base .int [.ref (ad o), .int p1] M r M' := by
  have hst : Est A E2 := est2
  refine Ct.ofW (by decide) (Nat.le_of_ble_eq_true rfl) ?_
  intro p e s m args below meth c Q H locs ls S hK hE hP hS hl hret
  have hx := S.1
  have hb := S.2.1
  have hown := S.2.2.2.1
  have ht := S.2.2.2.2
  have hl : lv_has ls 2 [(0, .ref (ad o)), (1, .int p1)] := hl
  unfold f_X10_base at hf
  refine lv_iload_n hx hb dX10_base_0 rfl (lv_at hl 1 rfl) ?_
  refine lv_i2l (v := (Int32.toInt64 p1)) hx hb dX10_base_1 rfl ?_
  refine lv_lconst (v := 0) hx hb dX10_base_2 (by decide) ?_
  refine lv_ldc2 (v := 9999) hx hb hown (ht _ k_1244) dX10_base_3 ?_
  refine r_callS (As := [.long (Int32.toInt64 p1), .long 0, .long 9999]) (rest := []) S hK hE hst hP hS (cw_X10_74 ht ⟨Nat.le_of_ble_eq_true rfl, Nat.le_of_ble_eq_true rfl⟩) rfl hl.1 rfl (Nat.le_of_ble_eq_true rfl) dX10_base_6 z2 (fun _ _ h => c_X10_isIn hG  h) hf (fun x1 M H locs hP hS bx1 hf => ?_)
  refine r_if_eq (tgt := 22) S dX10_base_9 (by decide) hf (fun hf => ?_) (fun hf => ?_)
  · refine lv_ldc (v := (-1000000001)) hx hb hown (ht _ k_1232) dX10_base_22 ?_
    exact hret _ _ _ _ _ _ dX10_base_24 hP hS rfl hf
  · refine lv_aload_n hx hb dX10_base_12 rfl (lv_at hl 0 rfl) ?_
    refine lv_bipush (v := 8) hx hb dX10_base_13 (by decide) ?_
    refine lv_iload_n hx hb dX10_base_15 rfl (lv_at hl 1 rfl) ?_
    refine r_callV (As := [.int 8, .int p1]) (rest := []) S hK hE hst hP hS h0 (by decide) rfl (cw_X10_155 ht ⟨Nat.le_of_ble_eq_true rfl, Nat.le_of_ble_eq_true rfl⟩) rfl hl.1 rfl (Nat.le_of_ble_eq_true rfl) dX10_base_16 z2 (fun _ _ h => c_X10_becomes hG  h0 h) hf (fun x2 M H locs hP hS bx2 hf => ?_)
    refine lv_goto (tgt := 24) hx hb dX10_base_19 (by decide) ?_
    exact hret _ _ _ _ _ _ dX10_base_24 hP hS rfl hf
section
variable {p : Program} {l : Launch} {e : Env} {R : Room} {s : State} {m : MethodId} {args : Array Value} {below : List Frame} {meth : Method} {c : Code} {H : Heap} {locs : List Loc} {cells slots : Nat} {Q : State → Prop} {cc : ByteArray} {pc : Nat} {ls : Array Slot} {rest : List Value} {nL : Nat} {D : va_G} {K : Ks} {ad : Nat → Nat} {A : Nat → Prop} {M : Mem} {β : Type} {z : β}
theorem gf_X10_158 (S : CallFix p m c cc nL s args Tw RX10) (hK : va_K D classes (gty K) s) (hP : va_P D classes (gws K G2 ad M) H) {a : Nat} {kk : Int32 → Option β} (ha : gcl G2 a = 10) (hdg : decode cc pc = .ok (.getfield 158, 3)) (hf : vv (M a 13) kk = some z) (w : ∀ x, kk x = some z → W p l e R s m args below meth c H locs cells slots Q (F0 m (pc + 3) ls (.int x :: rest))) : W p l e R s m args below meth c H locs cells slots Q (F0 m pc ls (.ref (ad a) :: rest)) := r_geti S hK hP (T := TX10) inX10 rfl (by decide) (by decide) ha (sf_X10_13 ha) k_1119 hdg hf w
end
section
variable {p : Program} {l : Launch} {e : Env} {R : Room} {s : State} {m : MethodId} {args : Array Value} {below : List Frame} {meth : Method} {c : Code} {H : Heap} {locs : List Loc} {cells slots : Nat} {Q : State → Prop} {cc : ByteArray} {pc : Nat} {ls : Array Slot} {rest : List Value} {nL : Nat} {D : va_G} {K : Ks} {ad : Nat → Nat} {A : Nat → Prop} {M : Mem} {β : Type} {z : β}
theorem gf_X10_43 (S : CallFix p m c cc nL s args Tw RX10) (hK : va_K D classes (gty K) s) (hP : va_P D classes (gws K G2 ad M) H) {a : Nat} {kk : Nat → Option β} (ha : gcl G2 a = 10) (hdg : decode cc pc = .ok (.getfield 43, 3)) (hf : vv (grf G2 a 12) kk = some z) (w : ∀ b, gcl G2 b = 20 ∧ gsz G2 b = 96 → kk b = some z → W p l e R s m args below meth c H locs cells slots Q (F0 m (pc + 3) ls (.ref (ad b) :: rest))) : W p l e R s m args below meth c H locs cells slots Q (F0 m pc ls (.ref (ad a) :: rest)) := r_getr S hK hP (T := TX10) inX10 rfl (by decide) (by decide) ha (sf_X10_12 ha).1 k_1118 hdg hf (fun b e => w b (by rw [e]; exact (sf_X10_12 ha).2))
end
section
variable {p : Program} {l : Launch} {e : Env} {R : Room} {s : State} {m : MethodId} {args : Array Value} {below : List Frame} {meth : Method} {c : Code} {H : Heap} {locs : List Loc} {cells slots : Nat} {Q : State → Prop} {cc : ByteArray} {pc : Nat} {ls : Array Slot} {rest : List Value} {nL : Nat} {D : va_G} {K : Ks} {ad : Nat → Nat} {A : Nat → Prop} {M : Mem} {β : Type} {z : β}
theorem pf_X10_158 (S : CallFix p m c cc nL s args Tw RX10) (hK : va_K D classes (gty K) s) (hG : Gok G2 ad A) (hP : va_P D classes (gws K G2 ad M) H) (hS : va_S A s.heap H locs) {a : Nat} {v : Int32} {kk : Mem → Option β} (ha : gcl G2 a = 10) (hdg : decode cc pc = .ok (.putfield 158, 3)) (hf : mm (up M a 13 v) kk = some z) (w : ∀ M H locs, va_P D classes (gws K G2 ad M) H → va_S A s.heap H locs → kk M = some z → W p l e R s m args below meth c H locs cells slots Q (F0 m (pc + 3) ls rest)) : W p l e R s m args below meth c H locs cells slots Q (F0 m pc ls (.int v :: .ref (ad a) :: rest)) := r_putt S hK hG hP hS (k := 13) (T := TX10) inX10 rfl (by decide) tyX10 tyX10_ok nmX10 (by decide) rfl rfl rfl ha (sf_X10_13 ha) k_1119 hdg hf w
end
def f_X10_feed (o : Nat) (p1 : Int32) (p2 : Int32) (p3 : Int32) (M : Mem) : Option (Int32 × Mem) :=
  vv (M o 13) fun x1 =>
  if 96 < (x1 + 12) then
    some ((-1000000003), M)
  else
    it1 (fun rc3 (v2 : Int32) M =>
      if v2 < 12 then
        jn (fun (v5 : Int32) (M : Mem) =>
          vv (grf G2 o 12) fun x7 =>
          vv (M o 13) fun x8 =>
          st M x7 x8 96 ((v5 >>> ((24 - (8 * (jr v2 4))) &&& 31)) &&& 255) fun M =>
          vv (M o 13) fun x9 =>
          mm (up M o 13 (x9 + 1)) fun M =>
          rc3 (v2 + 1) M
        ) fun k6 =>
        if v2 < 4 then
          k6 p1 M
        else
          if v2 < 8 then
            k6 p2 M
          else
            k6 p3 M
      else
        vv (M o 13) fun x4 =>
        some (x4, M)
    ) fuel 0 M
def rm_X10_feed : Room := { frames := 0, cells := 0, slots := 0, locals := 0 }
set_option maxHeartbeats 4000000 in
set_option maxRecDepth 100000 in
theorem c_X10_feed {l : Launch} {D : va_G} {K : Ks} {ad : Nat → Nat} {A : Nat → Prop} (hG : Gok G2 ad A) {o : Nat} {p1 : Int32} {p2 : Int32} {p3 : Int32} (h0 : gcl G2 o = 10) {M : Mem} {r : Int32} {M' : Mem} (hf : f_X10_feed o p1 p2 p3 M = some (r, M')) : Ct l E2 D K G2 ad A yX10_feed (ws_of yX10_feed cX10_feed 6 (some .int)) rm_X10_feed .int [.ref (ad o), .int p1, .int p2, .int p3] M r M' := by
  have hst : Est A E2 := est2
  refine Ct.ofW (by decide) (Nat.le_of_ble_eq_true rfl) ?_
  intro p e s m args below meth c Q H locs ls S hK hE hP hS hl hret
  have hx := S.1
  have hb := S.2.1
  have hown := S.2.2.2.1
  have ht := S.2.2.2.2
  have hl : lv_has ls 6 [(0, .ref (ad o)), (1, .int p1), (2, .int p2), (3, .int p3)] := hl
  unfold f_X10_feed at hf
  refine lv_aload_n hx hb dX10_feed_0 rfl (lv_at hl 0 rfl) ?_
  refine gf_X10_158 S hK hP h0 dX10_feed_1 hf (fun x1 hf => ?_)
  refine lv_bipush (v := 12) hx hb dX10_feed_4 (by decide) ?_
  refine lv_iadd hx hb dX10_feed_6 ?_
  refine lv_bipush (v := 96) hx hb dX10_feed_7 (by decide) ?_
  refine r_icmp_le (tgt := 15) S dX10_feed_9 (by decide) hf (fun hf => ?_) (fun hf => ?_)
  · refine lv_iconst (v := 0) hx hb dX10_feed_15 (by decide) ?_
    refine lv_istore (lv' := [(4, .int 0), (0, .ref (ad o)), (1, .int p1), (2, .int p2), (3, .int p3)]) hx hb dX10_feed_16 hl (by decide) rfl (fun ls hl => ?_)
    obtain ⟨F3, hF3, hf⟩ := it1_g hf
    have L3 : ∀ (n : Nat) (v2 : Int32) (M : Mem) (H : Heap) (locs : List Loc) (ls : Array Slot), lv_has ls 6 [(0, .ref (ad o)), (1, .int p1), (2, .int p2), (3, .int p3), (4, .int v2)] → va_P D classes (gws K G2 ad M) H → va_S A s.heap H locs → it1 F3 n v2 M = some (r, M') → W p l e rm_X10_feed s m args below meth c H locs 0 0 Q (F0 m 18 ls []) := by
      intro n
      induction n with
      | zero => intro v2 M H locs ls hl hP hS hf; exact nomatch hf
      | succ n ih3 =>
        intro v2 M H locs ls hl hP hS hf
        obtain ⟨rc3, hrc3, hf⟩ := it1_w hf
        rw [← hrc3] at ih3
        rw [hF3] at hf
        refine lv_iload hx hb dX10_feed_18 (lv_at hl 4 rfl) ?_
        refine lv_bipush (v := 12) hx hb dX10_feed_20 (by decide) ?_
        refine r_icmp_ge (tgt := 91) S dX10_feed_22 (by decide) hf (fun hf => ?_) (fun hf => ?_)
        · refine lv_aload_n hx hb dX10_feed_91 rfl (lv_at hl 0 rfl) ?_
          refine gf_X10_158 S hK hP h0 dX10_feed_92 hf (fun x4 hf => ?_)
          exact hret _ _ _ _ _ _ dX10_feed_95 hP hS rfl hf
        · refine lv_iload hx hb dX10_feed_25 (lv_at hl 4 rfl) ?_
          refine lv_iconst (v := 4) hx hb dX10_feed_27 (by decide) ?_
          obtain ⟨k6, hk6, hf⟩ := jn_w hf
          have J6 : ∀ (v5 : Int32) (M : Mem) (H : Heap) (locs : List Loc) (ls : Array Slot), lv_has ls 6 [(0, .ref (ad o)), (1, .int p1), (2, .int p2), (3, .int p3), (4, .int v2)] → va_P D classes (gws K G2 ad M) H → va_S A s.heap H locs → k6 v5 M = some (r, M') → W p l e rm_X10_feed s m args below meth c H locs 0 0 Q (F0 m 47 ls [.int v5]) := by
            intro v5 M H locs ls hl hP hS hf
            rw [hk6] at hf
            refine lv_istore (lv' := [(5, .int v5), (0, .ref (ad o)), (1, .int p1), (2, .int p2), (3, .int p3), (4, .int v2)]) hx hb dX10_feed_47 hl (by decide) rfl (fun ls hl => ?_)
            refine lv_aload_n hx hb dX10_feed_49 rfl (lv_at hl 1 rfl) ?_
            refine gf_X10_43 S hK hP h0 dX10_feed_50 hf (fun x7 hx7 hf => ?_)
            refine lv_aload_n hx hb dX10_feed_53 rfl (lv_at hl 1 rfl) ?_
            refine gf_X10_158 S hK hP h0 dX10_feed_54 hf (fun x8 hf => ?_)
            refine lv_iload hx hb dX10_feed_57 (lv_at hl 0 rfl) ?_
            refine lv_bipush (v := 24) hx hb dX10_feed_59 (by decide) ?_
            refine lv_bipush (v := 8) hx hb dX10_feed_61 (by decide) ?_
            refine lv_iload hx hb dX10_feed_63 (lv_at hl 5 rfl) ?_
            refine lv_iconst (v := 4) hx hb dX10_feed_65 (by decide) ?_
            refine lv_irem hx hb dX10_feed_66 (by decide) ?_
            refine lv_imul hx hb dX10_feed_67 ?_
            refine lv_isub hx hb dX10_feed_68 ?_
            refine lv_ishr hx hb dX10_feed_69 ?_
            refine lv_sipush (v := 255) hx hb dX10_feed_70 (by decide) ?_
            refine lv_iand hx hb dX10_feed_73 ?_
            refine r_iast S hK hG hP hS hx7 dX10_feed_74 hf (fun M H locs hP hS hf => ?_)
            refine lv_aload_n hx hb dX10_feed_75 rfl (lv_at hl 1 rfl) ?_
            refine lv_dup hx hb dX10_feed_76 rfl ?_
            refine gf_X10_158 S hK hP h0 dX10_feed_77 hf (fun x9 hf => ?_)
            refine lv_iconst (v := 1) hx hb dX10_feed_80 (by decide) ?_
            refine lv_iadd hx hb dX10_feed_81 ?_
            refine pf_X10_158 S hK hG hP hS h0 dX10_feed_82 hf (fun M H locs hP hS hf => ?_)
            refine lv_iinc (v := (v2 + 1)) (lv' := [(4, .int (v2 + 1)), (5, .int v5), (0, .ref (ad o)), (1, .int p1), (2, .int p2), (3, .int p3)]) hx hb dX10_feed_85 hl (k := 5) rfl rfl (by decide) rfl (fun ls hl => ?_)
            refine lv_goto (tgt := 18) hx hb dX10_feed_88 (by decide) ?_
            exact ih3 (v2 + 1) M H locs ls (lv_sub hl [2, 3, 4, 5, 0] rfl) hP hS hf
          refine r_icmp_ge (tgt := 35) S dX10_feed_28 (by decide) hf (fun hf => ?_) (fun hf => ?_)
          · refine lv_iload hx hb dX10_feed_35 (lv_at hl 4 rfl) ?_
            refine lv_bipush (v := 8) hx hb dX10_feed_37 (by decide) ?_
            refine r_icmp_ge (tgt := 46) S dX10_feed_39 (by decide) hf (fun hf => ?_) (fun hf => ?_)
            · refine lv_iload_n hx hb dX10_feed_46 rfl (lv_at hl 3 rfl) ?_
              exact J6 p3 M H locs ls (lv_sub hl [0, 1, 2, 3, 4] rfl) hP hS hf
            · refine lv_iload_n hx hb dX10_feed_42 rfl (lv_at hl 2 rfl) ?_
              refine lv_goto (tgt := 47) hx hb dX10_feed_43 (by decide) ?_
              exact J6 p2 M H locs ls (lv_sub hl [0, 1, 2, 3, 4] rfl) hP hS hf
          · refine lv_iload_n hx hb dX10_feed_31 rfl (lv_at hl 1 rfl) ?_
            refine lv_goto (tgt := 47) hx hb dX10_feed_32 (by decide) ?_
            exact J6 p1 M H locs ls (lv_sub hl [0, 1, 2, 3, 4] rfl) hP hS hf
    exact L3 _ 0 M H locs ls (lv_sub hl [1, 2, 3, 4, 0] rfl) hP hS hf
  · refine lv_ldc (v := (-1000000003)) hx hb hown (ht _ k_1234) dX10_feed_12 ?_
    exact hret _ _ _ _ _ _ dX10_feed_14 hP hS rfl hf
def f_X10_trim (o : Nat) (p1 : Int32) (M : Mem) : Option (Int32 × Mem) :=
  vv (M o 13) fun x1 =>
  bd (f_X10_isIn (Int32.toInt64 p1) 0 (Int32.toInt64 x1) M) fun x2 M =>
  if x2 = 0 then
    some ((-1000000001), M)
  else
    mm (up M o 13 p1) fun M =>
    some (p1, M)
def rm_X10_trim : Room := { frames := 1, cells := 0, slots := 0, locals := 25 }
set_option maxHeartbeats 4000000 in
set_option maxRecDepth 100000 in
theorem c_X10_trim {l : Launch} {D : va_G} {K : Ks} {ad : Nat → Nat} {A : Nat → Prop} (hG : Gok G2 ad A) {o : Nat} {p1 : Int32} (h0 : gcl G2 o = 10) {M : Mem} {r : Int32} {M' : Mem} (hf : f_X10_trim o p1 M = some (r, M')) : Ct l E2 D K G2 ad A yX10_trim (ws_of yX10_trim cX10_trim 2 (some .int)) rm_X10_trim .int [.ref (ad o), .int p1] M r M' := by
  have hst : Est A E2 := est2
  refine Ct.ofW (by decide) (Nat.le_of_ble_eq_true rfl) ?_
  intro p e s m args below meth c Q H locs ls S hK hE hP hS hl hret
  have hx := S.1
  have hb := S.2.1
  have hown := S.2.2.2.1
  have ht := S.2.2.2.2
  have hl : lv_has ls 2 [(0, .ref (ad o)), (1, .int p1)] := hl
  unfold f_X10_trim at hf
  refine lv_iload_n hx hb dX10_trim_0 rfl (lv_at hl 1 rfl) ?_
  refine lv_i2l (v := (Int32.toInt64 p1)) hx hb dX10_trim_1 rfl ?_
  refine lv_lconst (v := 0) hx hb dX10_trim_2 (by decide) ?_
  refine lv_aload_n hx hb dX10_trim_3 rfl (lv_at hl 0 rfl) ?_
  refine gf_X10_158 S hK hP h0 dX10_trim_4 hf (fun x1 hf => ?_)
  refine lv_i2l (v := (Int32.toInt64 x1)) hx hb dX10_trim_7 rfl ?_
  refine r_callS (As := [.long (Int32.toInt64 p1), .long 0, .long (Int32.toInt64 x1)]) (rest := []) S hK hE hst hP hS (cw_X10_74 ht ⟨Nat.le_of_ble_eq_true rfl, Nat.le_of_ble_eq_true rfl⟩) rfl hl.1 rfl (Nat.le_of_ble_eq_true rfl) dX10_trim_8 z2 (fun _ _ h => c_X10_isIn hG  h) hf (fun x2 M H locs hP hS bx2 hf => ?_)
  refine r_if_ne (tgt := 17) S dX10_trim_11 (by decide) hf (fun hf => ?_) (fun hf => ?_)
  · refine lv_aload_n hx hb dX10_trim_17 rfl (lv_at hl 0 rfl) ?_
    refine lv_iload_n hx hb dX10_trim_18 rfl (lv_at hl 1 rfl) ?_
    refine pf_X10_158 S hK hG hP hS h0 dX10_trim_19 hf (fun M H locs hP hS hf => ?_)
    refine lv_iload_n hx hb dX10_trim_22 rfl (lv_at hl 1 rfl) ?_
    exact hret _ _ _ _ _ _ dX10_trim_23 hP hS rfl hf
  · refine lv_ldc (v := (-1000000001)) hx hb hown (ht _ k_1232) dX10_trim_14 ?_
    exact hret _ _ _ _ _ _ dX10_trim_16 hP hS rfl hf
def f_X10_isLetter (o : Nat) (p1 : Int32) (M : Mem) : Option (Int32 × Mem) :=
  vv (M o 13) fun x1 =>
  if p1 < x1 then
    vv (grf G2 o 12) fun x2 =>
    ld M x2 p1 96 fun x3 =>
    bd (f_X10_isIn (Int32.toInt64 x3) 97 122 M) fun x4 M =>
    if x4 = 0 then
      some (0, M)
    else
      some (1, M)
  else
    some (0, M)
def rm_X10_isLetter : Room := { frames := 1, cells := 0, slots := 0, locals := 25 }
set_option maxHeartbeats 4000000 in
set_option maxRecDepth 100000 in
theorem c_X10_isLetter {l : Launch} {D : va_G} {K : Ks} {ad : Nat → Nat} {A : Nat → Prop} (hG : Gok G2 ad A) {o : Nat} {p1 : Int32} (h0 : gcl G2 o = 10) {M : Mem} {r : Int32} {M' : Mem} (hf : f_X10_isLetter o p1 M = some (r, M')) : Ct l E2 D K G2 ad A yX10_isLetter (ws_of yX10_isLetter cX10_isLetter 2 (some .boolean)) rm_X10_isLetter .boolean [.ref (ad o), .int p1] M r M' := by
  have hst : Est A E2 := est2
  refine Ct.ofW (by decide) (Nat.le_of_ble_eq_true rfl) ?_
  intro p e s m args below meth c Q H locs ls S hK hE hP hS hl hret
  have hx := S.1
  have hb := S.2.1
  have hown := S.2.2.2.1
  have ht := S.2.2.2.2
  have hl : lv_has ls 2 [(0, .ref (ad o)), (1, .int p1)] := hl
  unfold f_X10_isLetter at hf
  refine lv_iload_n hx hb dX10_isLetter_0 rfl (lv_at hl 1 rfl) ?_
  refine lv_aload_n hx hb dX10_isLetter_1 rfl (lv_at hl 0 rfl) ?_
  refine gf_X10_158 S hK hP h0 dX10_isLetter_2 hf (fun x1 hf => ?_)
  refine r_icmp_ge (tgt := 31) S dX10_isLetter_5 (by decide) hf (fun hf => ?_) (fun hf => ?_)
  · refine lv_iconst (v := 0) hx hb dX10_isLetter_31 (by decide) ?_
    exact hret _ _ _ _ _ _ dX10_isLetter_32 hP hS rfl hf
  · refine lv_aload_n hx hb dX10_isLetter_8 rfl (lv_at hl 0 rfl) ?_
    refine gf_X10_43 S hK hP h0 dX10_isLetter_9 hf (fun x2 hx2 hf => ?_)
    refine lv_iload_n hx hb dX10_isLetter_12 rfl (lv_at hl 1 rfl) ?_
    refine r_iald S hK hP hx2 dX10_isLetter_13 hf (fun x3 hf => ?_)
    refine lv_i2l (v := (Int32.toInt64 x3)) hx hb dX10_isLetter_14 rfl ?_
    refine lv_ldc2 (v := 97) hx hb hown (ht _ k_1359) dX10_isLetter_15 ?_
    refine lv_ldc2 (v := 122) hx hb hown (ht _ k_1360) dX10_isLetter_18 ?_
    refine r_callS (As := [.long (Int32.toInt64 x3), .long 97, .long 122]) (rest := []) S hK hE hst hP hS (cw_X10_74 ht ⟨Nat.le_of_ble_eq_true rfl, Nat.le_of_ble_eq_true rfl⟩) rfl hl.1 rfl (Nat.le_of_ble_eq_true rfl) dX10_isLetter_21 z2 (fun _ _ h => c_X10_isIn hG  h) hf (fun x4 M H locs hP hS bx4 hf => ?_)
    refine r_if_eq (tgt := 31) S dX10_isLetter_24 (by decide) hf (fun hf => ?_) (fun hf => ?_)
    · refine lv_iconst (v := 0) hx hb dX10_isLetter_31 (by decide) ?_
      exact hret _ _ _ _ _ _ dX10_isLetter_32 hP hS rfl hf
    · refine lv_iconst (v := 1) hx hb dX10_isLetter_27 (by decide) ?_
      refine lv_goto (tgt := 32) hx hb dX10_isLetter_28 (by decide) ?_
      exact hret _ _ _ _ _ _ dX10_isLetter_32 hP hS rfl hf
def f_X10_isDigit (o : Nat) (p1 : Int32) (M : Mem) : Option (Int32 × Mem) :=
  vv (M o 13) fun x1 =>
  if p1 < x1 then
    vv (grf G2 o 12) fun x2 =>
    ld M x2 p1 96 fun x3 =>
    bd (f_X10_isIn (Int32.toInt64 x3) 48 57 M) fun x4 M =>
    if x4 = 0 then
      some (0, M)
    else
      some (1, M)
  else
    some (0, M)
def rm_X10_isDigit : Room := { frames := 1, cells := 0, slots := 0, locals := 25 }
set_option maxHeartbeats 4000000 in
set_option maxRecDepth 100000 in
theorem c_X10_isDigit {l : Launch} {D : va_G} {K : Ks} {ad : Nat → Nat} {A : Nat → Prop} (hG : Gok G2 ad A) {o : Nat} {p1 : Int32} (h0 : gcl G2 o = 10) {M : Mem} {r : Int32} {M' : Mem} (hf : f_X10_isDigit o p1 M = some (r, M')) : Ct l E2 D K G2 ad A yX10_isDigit (ws_of yX10_isDigit cX10_isDigit 2 (some .boolean)) rm_X10_isDigit .boolean [.ref (ad o), .int p1] M r M' := by
  have hst : Est A E2 := est2
  refine Ct.ofW (by decide) (Nat.le_of_ble_eq_true rfl) ?_
  intro p e s m args below meth c Q H locs ls S hK hE hP hS hl hret
  have hx := S.1
  have hb := S.2.1
  have hown := S.2.2.2.1
  have ht := S.2.2.2.2
  have hl : lv_has ls 2 [(0, .ref (ad o)), (1, .int p1)] := hl
  unfold f_X10_isDigit at hf
  refine lv_iload_n hx hb dX10_isDigit_0 rfl (lv_at hl 1 rfl) ?_
  refine lv_aload_n hx hb dX10_isDigit_1 rfl (lv_at hl 0 rfl) ?_
  refine gf_X10_158 S hK hP h0 dX10_isDigit_2 hf (fun x1 hf => ?_)
  refine r_icmp_ge (tgt := 31) S dX10_isDigit_5 (by decide) hf (fun hf => ?_) (fun hf => ?_)
  · refine lv_iconst (v := 0) hx hb dX10_isDigit_31 (by decide) ?_
    exact hret _ _ _ _ _ _ dX10_isDigit_32 hP hS rfl hf
  · refine lv_aload_n hx hb dX10_isDigit_8 rfl (lv_at hl 0 rfl) ?_
    refine gf_X10_43 S hK hP h0 dX10_isDigit_9 hf (fun x2 hx2 hf => ?_)
    refine lv_iload_n hx hb dX10_isDigit_12 rfl (lv_at hl 1 rfl) ?_
    refine r_iald S hK hP hx2 dX10_isDigit_13 hf (fun x3 hf => ?_)
    refine lv_i2l (v := (Int32.toInt64 x3)) hx hb dX10_isDigit_14 rfl ?_
    refine lv_ldc2 (v := 48) hx hb hown (ht _ k_1365) dX10_isDigit_15 ?_
    refine lv_ldc2 (v := 57) hx hb hown (ht _ k_1366) dX10_isDigit_18 ?_
    refine r_callS (As := [.long (Int32.toInt64 x3), .long 48, .long 57]) (rest := []) S hK hE hst hP hS (cw_X10_74 ht ⟨Nat.le_of_ble_eq_true rfl, Nat.le_of_ble_eq_true rfl⟩) rfl hl.1 rfl (Nat.le_of_ble_eq_true rfl) dX10_isDigit_21 z2 (fun _ _ h => c_X10_isIn hG  h) hf (fun x4 M H locs hP hS bx4 hf => ?_)
    refine r_if_eq (tgt := 31) S dX10_isDigit_24 (by decide) hf (fun hf => ?_) (fun hf => ?_)
    · refine lv_iconst (v := 0) hx hb dX10_isDigit_31 (by decide) ?_
      exact hret _ _ _ _ _ _ dX10_isDigit_32 hP hS rfl hf
    · refine lv_iconst (v := 1) hx hb dX10_isDigit_27 (by decide) ?_
      refine lv_goto (tgt := 32) hx hb dX10_isDigit_28 (by decide) ?_
      exact hret _ _ _ _ _ _ dX10_isDigit_32 hP hS rfl hf
theorem cw_X10_179 {R : Room} {s : State} {args : Array Value} (ht : ∀ w ∈ Tw, w.before args s = true) (hR : rm_X10_isLetter.frames + 1 ≤ R.frames ∧ 8 + (2 + 11) + rm_X10_isLetter.locals ≤ R.locals) : CallW R s args RX10 RX10 179 yX10_isLetter cX10_isLetter 2 (some .boolean) (ws_of yX10_isLetter cX10_isLetter 2 (some .boolean)) rm_X10_isLetter 0 0 1 := cw_V 1 ht k_1355 k_1357 k_34 k_73 k_1358 (by decide +kernel) rfl rfl hR
theorem cw_X10_185 {R : Room} {s : State} {args : Array Value} (ht : ∀ w ∈ Tw, w.before args s = true) (hR : rm_X10_isDigit.frames + 1 ≤ R.frames ∧ 8 + (2 + 11) + rm_X10_isDigit.locals ≤ R.locals) : CallW R s args RX10 RX10 185 yX10_isDigit cX10_isDigit 2 (some .boolean) (ws_of yX10_isDigit cX10_isDigit 2 (some .boolean)) rm_X10_isDigit 0 0 1 := cw_V 1 ht k_1361 k_1363 k_35 k_73 k_1364 (by decide +kernel) rfl rfl hR
section
variable {p : Program} {l : Launch} {e : Env} {R : Room} {s : State} {m : MethodId} {args : Array Value} {below : List Frame} {meth : Method} {c : Code} {H : Heap} {locs : List Loc} {cells slots : Nat} {Q : State → Prop} {cc : ByteArray} {pc : Nat} {ls : Array Slot} {rest : List Value} {nL : Nat} {D : va_G} {K : Ks} {ad : Nat → Nat} {A : Nat → Prop} {M : Mem} {β : Type} {z : β}
theorem gf_X10_170 (S : CallFix p m c cc nL s args Tw RX10) (hK : va_K D classes (gty K) s) (hP : va_P D classes (gws K G2 ad M) H) {a : Nat} {kk : Int32 → Option β} (ha : gcl G2 a = 10) (hdg : decode cc pc = .ok (.getfield 170, 3)) (hf : vv (M a 15) kk = some z) (w : ∀ x, kk x = some z → W p l e R s m args below meth c H locs cells slots Q (F0 m (pc + 3) ls (.int x :: rest))) : W p l e R s m args below meth c H locs cells slots Q (F0 m pc ls (.ref (ad a) :: rest)) := r_geti S hK hP (T := TX10) inX10 rfl (by decide) (by decide) ha (sf_X10_15 ha) k_1121 hdg hf w
end
section
variable {p : Program} {l : Launch} {e : Env} {R : Room} {s : State} {m : MethodId} {args : Array Value} {below : List Frame} {meth : Method} {c : Code} {H : Heap} {locs : List Loc} {cells slots : Nat} {Q : State → Prop} {cc : ByteArray} {pc : Nat} {ls : Array Slot} {rest : List Value} {nL : Nat} {D : va_G} {K : Ks} {ad : Nat → Nat} {A : Nat → Prop} {M : Mem} {β : Type} {z : β}
theorem gf_X10_173 (S : CallFix p m c cc nL s args Tw RX10) (hK : va_K D classes (gty K) s) (hP : va_P D classes (gws K G2 ad M) H) {a : Nat} {kk : Int32 → Option β} (ha : gcl G2 a = 10) (hdg : decode cc pc = .ok (.getfield 173, 3)) (hf : vv (M a 16) kk = some z) (w : ∀ x, kk x = some z → W p l e R s m args below meth c H locs cells slots Q (F0 m (pc + 3) ls (.int x :: rest))) : W p l e R s m args below meth c H locs cells slots Q (F0 m pc ls (.ref (ad a) :: rest)) := r_geti S hK hP (T := TX10) inX10 rfl (by decide) (by decide) ha (sf_X10_16 ha) k_1122 hdg hf w
end
section
variable {p : Program} {l : Launch} {e : Env} {R : Room} {s : State} {m : MethodId} {args : Array Value} {below : List Frame} {meth : Method} {c : Code} {H : Heap} {locs : List Loc} {cells slots : Nat} {Q : State → Prop} {cc : ByteArray} {pc : Nat} {ls : Array Slot} {rest : List Value} {nL : Nat} {D : va_G} {K : Ks} {ad : Nat → Nat} {A : Nat → Prop} {M : Mem} {β : Type} {z : β}
theorem gf_X10_176 (S : CallFix p m c cc nL s args Tw RX10) (hK : va_K D classes (gty K) s) (hP : va_P D classes (gws K G2 ad M) H) {a : Nat} {kk : Int32 → Option β} (ha : gcl G2 a = 10) (hdg : decode cc pc = .ok (.getfield 176, 3)) (hf : vv (M a 14) kk = some z) (w : ∀ x, kk x = some z → W p l e R s m args below meth c H locs cells slots Q (F0 m (pc + 3) ls (.int x :: rest))) : W p l e R s m args below meth c H locs cells slots Q (F0 m pc ls (.ref (ad a) :: rest)) := r_geti S hK hP (T := TX10) inX10 rfl (by decide) (by decide) ha (sf_X10_14 ha) k_1120 hdg hf w
end
section
variable {p : Program} {l : Launch} {e : Env} {R : Room} {s : State} {m : MethodId} {args : Array Value} {below : List Frame} {meth : Method} {c : Code} {H : Heap} {locs : List Loc} {cells slots : Nat} {Q : State → Prop} {cc : ByteArray} {pc : Nat} {ls : Array Slot} {rest : List Value} {nL : Nat} {D : va_G} {K : Ks} {ad : Nat → Nat} {A : Nat → Prop} {M : Mem} {β : Type} {z : β}
theorem gf_X10_188 (S : CallFix p m c cc nL s args Tw RX10) (hK : va_K D classes (gty K) s) (hP : va_P D classes (gws K G2 ad M) H) {a : Nat} {kk : Int32 → Option β} (ha : gcl G2 a = 10) (hdg : decode cc pc = .ok (.getfield 188, 3)) (hf : vv (M a 17) kk = some z) (w : ∀ x, kk x = some z → W p l e R s m args below meth c H locs cells slots Q (F0 m (pc + 3) ls (.int x :: rest))) : W p l e R s m args below meth c H locs cells slots Q (F0 m pc ls (.ref (ad a) :: rest)) := r_geti S hK hP (T := TX10) inX10 rfl (by decide) (by decide) ha (sf_X10_17 ha) k_1123 hdg hf w
end
section
variable {p : Program} {l : Launch} {e : Env} {R : Room} {s : State} {m : MethodId} {args : Array Value} {below : List Frame} {meth : Method} {c : Code} {H : Heap} {locs : List Loc} {cells slots : Nat} {Q : State → Prop} {cc : ByteArray} {pc : Nat} {ls : Array Slot} {rest : List Value} {nL : Nat} {D : va_G} {K : Ks} {ad : Nat → Nat} {A : Nat → Prop} {M : Mem} {β : Type} {z : β}
theorem pf_X10_170 (S : CallFix p m c cc nL s args Tw RX10) (hK : va_K D classes (gty K) s) (hG : Gok G2 ad A) (hP : va_P D classes (gws K G2 ad M) H) (hS : va_S A s.heap H locs) {a : Nat} {v : Int32} {kk : Mem → Option β} (ha : gcl G2 a = 10) (hdg : decode cc pc = .ok (.putfield 170, 3)) (hf : mm (up M a 15 v) kk = some z) (w : ∀ M H locs, va_P D classes (gws K G2 ad M) H → va_S A s.heap H locs → kk M = some z → W p l e R s m args below meth c H locs cells slots Q (F0 m (pc + 3) ls rest)) : W p l e R s m args below meth c H locs cells slots Q (F0 m pc ls (.int v :: .ref (ad a) :: rest)) := r_putt S hK hG hP hS (k := 15) (T := TX10) inX10 rfl (by decide) tyX10 tyX10_ok nmX10 (by decide) rfl rfl rfl ha (sf_X10_15 ha) k_1121 hdg hf w
end
section
variable {p : Program} {l : Launch} {e : Env} {R : Room} {s : State} {m : MethodId} {args : Array Value} {below : List Frame} {meth : Method} {c : Code} {H : Heap} {locs : List Loc} {cells slots : Nat} {Q : State → Prop} {cc : ByteArray} {pc : Nat} {ls : Array Slot} {rest : List Value} {nL : Nat} {D : va_G} {K : Ks} {ad : Nat → Nat} {A : Nat → Prop} {M : Mem} {β : Type} {z : β}
theorem pf_X10_173 (S : CallFix p m c cc nL s args Tw RX10) (hK : va_K D classes (gty K) s) (hG : Gok G2 ad A) (hP : va_P D classes (gws K G2 ad M) H) (hS : va_S A s.heap H locs) {a : Nat} {v : Int32} {kk : Mem → Option β} (ha : gcl G2 a = 10) (hdg : decode cc pc = .ok (.putfield 173, 3)) (hf : mm (up M a 16 v) kk = some z) (w : ∀ M H locs, va_P D classes (gws K G2 ad M) H → va_S A s.heap H locs → kk M = some z → W p l e R s m args below meth c H locs cells slots Q (F0 m (pc + 3) ls rest)) : W p l e R s m args below meth c H locs cells slots Q (F0 m pc ls (.int v :: .ref (ad a) :: rest)) := r_putt S hK hG hP hS (k := 16) (T := TX10) inX10 rfl (by decide) tyX10 tyX10_ok nmX10 (by decide) rfl rfl rfl ha (sf_X10_16 ha) k_1122 hdg hf w
end
section
variable {p : Program} {l : Launch} {e : Env} {R : Room} {s : State} {m : MethodId} {args : Array Value} {below : List Frame} {meth : Method} {c : Code} {H : Heap} {locs : List Loc} {cells slots : Nat} {Q : State → Prop} {cc : ByteArray} {pc : Nat} {ls : Array Slot} {rest : List Value} {nL : Nat} {D : va_G} {K : Ks} {ad : Nat → Nat} {A : Nat → Prop} {M : Mem} {β : Type} {z : β}
theorem pf_X10_176 (S : CallFix p m c cc nL s args Tw RX10) (hK : va_K D classes (gty K) s) (hG : Gok G2 ad A) (hP : va_P D classes (gws K G2 ad M) H) (hS : va_S A s.heap H locs) {a : Nat} {v : Int32} {kk : Mem → Option β} (ha : gcl G2 a = 10) (hdg : decode cc pc = .ok (.putfield 176, 3)) (hf : mm (up M a 14 v) kk = some z) (w : ∀ M H locs, va_P D classes (gws K G2 ad M) H → va_S A s.heap H locs → kk M = some z → W p l e R s m args below meth c H locs cells slots Q (F0 m (pc + 3) ls rest)) : W p l e R s m args below meth c H locs cells slots Q (F0 m pc ls (.int v :: .ref (ad a) :: rest)) := r_putt S hK hG hP hS (k := 14) (T := TX10) inX10 rfl (by decide) tyX10 tyX10_ok nmX10 (by decide) rfl rfl rfl ha (sf_X10_14 ha) k_1120 hdg hf w
end
section
variable {p : Program} {l : Launch} {e : Env} {R : Room} {s : State} {m : MethodId} {args : Array Value} {below : List Frame} {meth : Method} {c : Code} {H : Heap} {locs : List Loc} {cells slots : Nat} {Q : State → Prop} {cc : ByteArray} {pc : Nat} {ls : Array Slot} {rest : List Value} {nL : Nat} {D : va_G} {K : Ks} {ad : Nat → Nat} {A : Nat → Prop} {M : Mem} {β : Type} {z : β}
theorem pf_X10_182 (S : CallFix p m c cc nL s args Tw RX10) (hK : va_K D classes (gty K) s) (hG : Gok G2 ad A) (hP : va_P D classes (gws K G2 ad M) H) (hS : va_S A s.heap H locs) {a : Nat} {v : Int32} {kk : Mem → Option β} (ha : gcl G2 a = 10) (hdg : decode cc pc = .ok (.putfield 182, 3)) (hf : mm (up M a 18 v) kk = some z) (w : ∀ M H locs, va_P D classes (gws K G2 ad M) H → va_S A s.heap H locs → kk M = some z → W p l e R s m args below meth c H locs cells slots Q (F0 m (pc + 3) ls rest)) : W p l e R s m args below meth c H locs cells slots Q (F0 m pc ls (.int v :: .ref (ad a) :: rest)) := r_putt S hK hG hP hS (k := 18) (T := TX10) inX10 rfl (by decide) tyX10 tyX10_ok nmX10 (by decide) rfl rfl rfl ha (sf_X10_18 ha) k_1124 hdg hf w
end
section
variable {p : Program} {l : Launch} {e : Env} {R : Room} {s : State} {m : MethodId} {args : Array Value} {below : List Frame} {meth : Method} {c : Code} {H : Heap} {locs : List Loc} {cells slots : Nat} {Q : State → Prop} {cc : ByteArray} {pc : Nat} {ls : Array Slot} {rest : List Value} {nL : Nat} {D : va_G} {K : Ks} {ad : Nat → Nat} {A : Nat → Prop} {M : Mem} {β : Type} {z : β}
theorem pf_X10_188 (S : CallFix p m c cc nL s args Tw RX10) (hK : va_K D classes (gty K) s) (hG : Gok G2 ad A) (hP : va_P D classes (gws K G2 ad M) H) (hS : va_S A s.heap H locs) {a : Nat} {v : Int32} {kk : Mem → Option β} (ha : gcl G2 a = 10) (hdg : decode cc pc = .ok (.putfield 188, 3)) (hf : mm (up M a 17 v) kk = some z) (w : ∀ M H locs, va_P D classes (gws K G2 ad M) H → va_S A s.heap H locs → kk M = some z → W p l e R s m args below meth c H locs cells slots Q (F0 m (pc + 3) ls rest)) : W p l e R s m args below meth c H locs cells slots Q (F0 m pc ls (.int v :: .ref (ad a) :: rest)) := r_putt S hK hG hP hS (k := 17) (T := TX10) inX10 rfl (by decide) tyX10 tyX10_ok nmX10 (by decide) rfl rfl rfl ha (sf_X10_17 ha) k_1123 hdg hf w
end
def f_X10_goesOn (o : Nat) (M : Mem) : Option (Int32 × Mem) :=
  vv (M o 15) fun x1 =>
  jn (fun (v2 : Int32) (M : Mem) =>
    vv (M o 15) fun x4 =>
    it0 (fun rc5 M =>
      vv (M o 15) fun x6 =>
      vv (M o 13) fun x7 =>
      jn (fun (M : Mem) =>
        jn (fun (v9 : Int32) (M : Mem) =>
          vv (M o 15) fun x11 =>
          mm (up M o 14 x11) fun M =>
          vv (M o 14) fun x12 =>
          vv (M o 13) fun x13 =>
          if x12 = x13 then
            mm (up M o 16 0) fun M =>
            some (0, M)
          else
            vv (M o 14) fun x14 =>
            bd (f_X10_isLetter o x14 M) fun x15 M =>
            if x15 = 0 then
              vv (M o 14) fun x16 =>
              bd (f_X10_isDigit o x16 M) fun x17 M =>
              if x17 = 0 then
                mm (up M o 16 3) fun M =>
                vv (grf G2 o 12) fun x18 =>
                vv (M o 14) fun x19 =>
                ld M x18 x19 96 fun x20 =>
                mm (up M o 18 x20) fun M =>
                vv (M o 15) fun x21 =>
                mm (up M o 15 (x21 + 1)) fun M =>
                some (0, M)
              else
                mm (up M o 17 0) fun M =>
                it0 (fun rc22 M =>
                  vv (M o 15) fun x23 =>
                  bd (f_X10_isDigit o x23 M) fun x24 M =>
                  if x24 = 0 then
                    jn (fun (v25 : Int32) (M : Mem) =>
                      mm (up M o 16 v25) fun M =>
                      some (0, M)
                    ) fun k26 =>
                    if v9 = 0 then
                      vv (M o 15) fun x27 =>
                      vv (M o 14) fun x28 =>
                      if 4 < (x27 - x28) then
                        k26 4 M
                      else
                        k26 2 M
                    else
                      k26 4 M
                  else
                    vv (M o 15) fun x29 =>
                    vv (M o 14) fun x30 =>
                    jn (fun (v31 : Int32) (M : Mem) =>
                      mm (up M o 17 v31) fun M =>
                      vv (M o 15) fun x33 =>
                      mm (up M o 15 (x33 + 1)) fun M =>
                      rc22 M
                    ) fun k32 =>
                    if (x29 - x30) < 4 then
                      vv (M o 17) fun x35 =>
                      vv (grf G2 o 12) fun x36 =>
                      vv (M o 15) fun x37 =>
                      ld M x36 x37 96 fun x38 =>
                      k32 (((10 * x35) + x38) - 48) M
                    else
                      vv (M o 17) fun x34 =>
                      k32 x34 M
                ) fuel M
            else
              it0 (fun rc39 M =>
                vv (M o 15) fun x40 =>
                bd (f_X10_isLetter o x40 M) fun x41 M =>
                if x41 = 0 then
                  jn (fun (v42 : Int32) (M : Mem) =>
                    mm (up M o 16 v42) fun M =>
                    vv (M o 15) fun x44 =>
                    vv (M o 14) fun x45 =>
                    jn (fun (v46 : Int32) (M : Mem) =>
                      mm (up M o 18 v46) fun M =>
                      some (0, M)
                    ) fun k47 =>
                    if (x44 - x45) = 1 then
                      vv (grf G2 o 12) fun x48 =>
                      vv (M o 14) fun x49 =>
                      ld M x48 x49 96 fun x50 =>
                      k47 x50 M
                    else
                      k47 0 M
                  ) fun k43 =>
                  if v9 = 0 then
                    k43 1 M
                  else
                    k43 4 M
                else
                  vv (M o 15) fun x51 =>
                  mm (up M o 15 (x51 + 1)) fun M =>
                  rc39 M
              ) fuel M
        ) fun k10 =>
        if v2 = 0 then
          k10 0 M
        else
          vv (M o 15) fun x52 =>
          if x4 = x52 then
            k10 1 M
          else
            k10 0 M
      ) fun k8 =>
      if x6 < x7 then
        vv (grf G2 o 12) fun x53 =>
        vv (M o 15) fun x54 =>
        ld M x53 x54 96 fun x55 =>
        if x55 = 32 then
          vv (M o 15) fun x56 =>
          mm (up M o 15 (x56 + 1)) fun M =>
          rc5 M
        else
          k8 M
      else
        k8 M
    ) fuel M
  ) fun k3 =>
  if 0 < x1 then
    vv (M o 16) fun x57 =>
    if x57 = 1 then
      k3 1 M
    else
      vv (M o 16) fun x58 =>
      if x58 = 2 then
        k3 1 M
      else
        k3 0 M
  else
    k3 0 M
def rm_X10_goesOn : Room := { frames := 2, cells := 0, slots := 0, locals := 46 }
set_option maxHeartbeats 4000000 in
set_option maxRecDepth 100000 in
theorem c_X10_goesOn {l : Launch} {D : va_G} {K : Ks} {ad : Nat → Nat} {A : Nat → Prop} (hG : Gok G2 ad A) {o : Nat} (h0 : gcl G2 o = 10) {M : Mem} {r : Int32} {M' : Mem} (hf : f_X10_goesOn o M = some (r, M')) : Cv l E2 D K G2 ad A yX10_goesOn (ws_of yX10_goesOn cX10_goesOn 3 none) rm_X10_goesOn [.ref (ad o)] M M' := by
  have hst : Est A E2 := est2
  refine Cv.ofW (r := r) (by decide) (Nat.le_of_ble_eq_true rfl) ?_
  intro p e s m args below meth c Q H locs ls S hK hE hP hS hl hret
  have hx := S.1
  have hb := S.2.1
  have hown := S.2.2.2.1
  have ht := S.2.2.2.2
  have hl : lv_has ls 3 [(0, .ref (ad o))] := hl
  unfold f_X10_goesOn at hf
  refine lv_aload_n hx hb dX10_goesOn_0 rfl (lv_at hl 0 rfl) ?_
  refine gf_X10_170 S hK hP h0 dX10_goesOn_1 hf (fun x1 hf => ?_)
  obtain ⟨k3, hk3, hf⟩ := jn_w hf
  have J3 : ∀ (v2 : Int32) (M : Mem) (H : Heap) (locs : List Loc) (ls : Array Slot), lv_has ls 3 [(0, .ref (ad o))] → va_P D classes (gws K G2 ad M) H → va_S A s.heap H locs → k3 v2 M = some (r, M') → W p l e rm_X10_goesOn s m args below meth c H locs 0 0 Q (F0 m 28 ls [.int v2]) := by
    intro v2 M H locs ls hl hP hS hf
    rw [hk3] at hf
    refine lv_istore_n (lv' := [(1, .int v2), (0, .ref (ad o))]) hx hb dX10_goesOn_28 rfl hl (by decide) rfl (fun ls hl => ?_)
    refine lv_aload_n hx hb dX10_goesOn_29 rfl (lv_at hl 1 rfl) ?_
    refine gf_X10_170 S hK hP h0 dX10_goesOn_30 hf (fun x4 hf => ?_)
    refine lv_istore_n (lv' := [(2, .int x4), (1, .int v2), (0, .ref (ad o))]) hx hb dX10_goesOn_33 rfl hl (by decide) rfl (fun ls hl => ?_)
    obtain ⟨F5, hF5, hf⟩ := it0_g hf
    have L5 : ∀ (n : Nat) (M : Mem) (H : Heap) (locs : List Loc) (ls : Array Slot), lv_has ls 3 [(0, .ref (ad o)), (1, .int v2), (2, .int x4)] → va_P D classes (gws K G2 ad M) H → va_S A s.heap H locs → it0 F5 n M = some (r, M') → W p l e rm_X10_goesOn s m args below meth c H locs 0 0 Q (F0 m 34 ls []) := by
      intro n
      induction n with
      | zero => intro M H locs ls hl hP hS hf; exact nomatch hf
      | succ n ih5 =>
        intro M H locs ls hl hP hS hf
        obtain ⟨rc5, hrc5, hf⟩ := it0_w hf
        rw [← hrc5] at ih5
        rw [hF5] at hf
        refine lv_aload_n hx hb dX10_goesOn_34 rfl (lv_at hl 0 rfl) ?_
        refine gf_X10_170 S hK hP h0 dX10_goesOn_35 hf (fun x6 hf => ?_)
        refine lv_aload_n hx hb dX10_goesOn_38 rfl (lv_at hl 0 rfl) ?_
        refine gf_X10_158 S hK hP h0 dX10_goesOn_39 hf (fun x7 hf => ?_)
        obtain ⟨k8, hk8, hf⟩ := jn_w hf
        have J8 : ∀ (M : Mem) (H : Heap) (locs : List Loc) (ls : Array Slot), lv_has ls 3 [(0, .ref (ad o)), (1, .int v2), (2, .int x4)] → va_P D classes (gws K G2 ad M) H → va_S A s.heap H locs → k8 M = some (r, M') → W p l e rm_X10_goesOn s m args below meth c H locs 0 0 Q (F0 m 72 ls []) := by
          intro M H locs ls hl hP hS hf
          rw [hk8] at hf
          refine lv_iload_n hx hb dX10_goesOn_72 rfl (lv_at hl 1 rfl) ?_
          obtain ⟨k10, hk10, hf⟩ := jn_w hf
          have J10 : ∀ (v9 : Int32) (M : Mem) (H : Heap) (locs : List Loc) (ls : Array Slot), lv_has ls 3 [(0, .ref (ad o))] → va_P D classes (gws K G2 ad M) H → va_S A s.heap H locs → k10 v9 M = some (r, M') → W p l e rm_X10_goesOn s m args below meth c H locs 0 0 Q (F0 m 89 ls [.int v9]) := by
            intro v9 M H locs ls hl hP hS hf
            rw [hk10] at hf
            refine lv_istore_n (lv' := [(1, .int v9), (0, .ref (ad o))]) hx hb dX10_goesOn_89 rfl hl (by decide) rfl (fun ls hl => ?_)
            refine lv_aload_n hx hb dX10_goesOn_90 rfl (lv_at hl 1 rfl) ?_
            refine lv_aload_n hx hb dX10_goesOn_91 rfl (lv_at hl 1 rfl) ?_
            refine gf_X10_170 S hK hP h0 dX10_goesOn_92 hf (fun x11 hf => ?_)
            refine pf_X10_176 S hK hG hP hS h0 dX10_goesOn_95 hf (fun M H locs hP hS hf => ?_)
            refine lv_aload_n hx hb dX10_goesOn_98 rfl (lv_at hl 1 rfl) ?_
            refine gf_X10_176 S hK hP h0 dX10_goesOn_99 hf (fun x12 hf => ?_)
            refine lv_aload_n hx hb dX10_goesOn_102 rfl (lv_at hl 1 rfl) ?_
            refine gf_X10_158 S hK hP h0 dX10_goesOn_103 hf (fun x13 hf => ?_)
            refine r_icmp_ne (tgt := 117) S dX10_goesOn_106 (by decide) hf (fun hf => ?_) (fun hf => ?_)
            · refine lv_aload_n hx hb dX10_goesOn_117 rfl (lv_at hl 1 rfl) ?_
              refine lv_aload_n hx hb dX10_goesOn_118 rfl (lv_at hl 1 rfl) ?_
              refine gf_X10_176 S hK hP h0 dX10_goesOn_119 hf (fun x14 hf => ?_)
              refine r_callV (As := [.int x14]) (rest := []) S hK hE hst hP hS h0 (by decide) rfl (cw_X10_179 ht ⟨Nat.le_of_ble_eq_true rfl, Nat.le_of_ble_eq_true rfl⟩) rfl hl.1 rfl (Nat.le_of_ble_eq_true rfl) dX10_goesOn_122 z2 (fun _ _ h => c_X10_isLetter hG  h0 h) hf (fun x15 M H locs hP hS bx15 hf => ?_)
              refine r_if_eq (tgt := 198) S dX10_goesOn_125 (by decide) hf (fun hf => ?_) (fun hf => ?_)
              · refine lv_aload_n hx hb dX10_goesOn_198 rfl (lv_at hl 1 rfl) ?_
                refine lv_aload_n hx hb dX10_goesOn_199 rfl (lv_at hl 1 rfl) ?_
                refine gf_X10_176 S hK hP h0 dX10_goesOn_200 hf (fun x16 hf => ?_)
                refine r_callV (As := [.int x16]) (rest := []) S hK hE hst hP hS h0 (by decide) rfl (cw_X10_185 ht ⟨Nat.le_of_ble_eq_true rfl, Nat.le_of_ble_eq_true rfl⟩) rfl hl.1 rfl (Nat.le_of_ble_eq_true rfl) dX10_goesOn_203 z2 (fun _ _ h => c_X10_isDigit hG  h0 h) hf (fun x17 M H locs hP hS bx17 hf => ?_)
                refine r_if_eq (tgt := 311) S dX10_goesOn_206 (by decide) hf (fun hf => ?_) (fun hf => ?_)
                · refine lv_aload_n hx hb dX10_goesOn_311 rfl (lv_at hl 1 rfl) ?_
                  refine lv_iconst (v := 3) hx hb dX10_goesOn_312 (by decide) ?_
                  refine pf_X10_173 S hK hG hP hS h0 dX10_goesOn_313 hf (fun M H locs hP hS hf => ?_)
                  refine lv_aload_n hx hb dX10_goesOn_316 rfl (lv_at hl 1 rfl) ?_
                  refine lv_aload_n hx hb dX10_goesOn_317 rfl (lv_at hl 1 rfl) ?_
                  refine gf_X10_43 S hK hP h0 dX10_goesOn_318 hf (fun x18 hx18 hf => ?_)
                  refine lv_aload_n hx hb dX10_goesOn_321 rfl (lv_at hl 1 rfl) ?_
                  refine gf_X10_176 S hK hP h0 dX10_goesOn_322 hf (fun x19 hf => ?_)
                  refine r_iald S hK hP hx18 dX10_goesOn_325 hf (fun x20 hf => ?_)
                  refine pf_X10_182 S hK hG hP hS h0 dX10_goesOn_326 hf (fun M H locs hP hS hf => ?_)
                  refine lv_aload_n hx hb dX10_goesOn_329 rfl (lv_at hl 1 rfl) ?_
                  refine lv_dup hx hb dX10_goesOn_330 rfl ?_
                  refine gf_X10_170 S hK hP h0 dX10_goesOn_331 hf (fun x21 hf => ?_)
                  refine lv_iconst (v := 1) hx hb dX10_goesOn_334 (by decide) ?_
                  refine lv_iadd hx hb dX10_goesOn_335 ?_
                  refine pf_X10_170 S hK hG hP hS h0 dX10_goesOn_336 hf (fun M H locs hP hS hf => ?_)
                  exact hret _ _ _ _ _ _ dX10_goesOn_339 hP hS hf
                · refine lv_aload_n hx hb dX10_goesOn_209 rfl (lv_at hl 1 rfl) ?_
                  refine lv_iconst (v := 0) hx hb dX10_goesOn_210 (by decide) ?_
                  refine pf_X10_188 S hK hG hP hS h0 dX10_goesOn_211 hf (fun M H locs hP hS hf => ?_)
                  obtain ⟨F22, hF22, hf⟩ := it0_g hf
                  have L22 : ∀ (n : Nat) (M : Mem) (H : Heap) (locs : List Loc) (ls : Array Slot), lv_has ls 3 [(0, .ref (ad o)), (1, .int v9)] → va_P D classes (gws K G2 ad M) H → va_S A s.heap H locs → it0 F22 n M = some (r, M') → W p l e rm_X10_goesOn s m args below meth c H locs 0 0 Q (F0 m 214 ls []) := by
                    intro n
                    induction n with
                    | zero => intro M H locs ls hl hP hS hf; exact nomatch hf
                    | succ n ih22 =>
                      intro M H locs ls hl hP hS hf
                      obtain ⟨rc22, hrc22, hf⟩ := it0_w hf
                      rw [← hrc22] at ih22
                      rw [hF22] at hf
                      refine lv_aload_n hx hb dX10_goesOn_214 rfl (lv_at hl 0 rfl) ?_
                      refine lv_aload_n hx hb dX10_goesOn_215 rfl (lv_at hl 0 rfl) ?_
                      refine gf_X10_170 S hK hP h0 dX10_goesOn_216 hf (fun x23 hf => ?_)
                      refine r_callV (As := [.int x23]) (rest := []) S hK hE hst hP hS h0 (by decide) rfl (cw_X10_185 ht ⟨Nat.le_of_ble_eq_true rfl, Nat.le_of_ble_eq_true rfl⟩) rfl hl.1 rfl (Nat.le_of_ble_eq_true rfl) dX10_goesOn_219 z2 (fun _ _ h => c_X10_isDigit hG  h0 h) hf (fun x24 M H locs hP hS bx24 hf => ?_)
                      refine r_if_eq (tgt := 282) S dX10_goesOn_222 (by decide) hf (fun hf => ?_) (fun hf => ?_)
                      · refine lv_aload_n hx hb dX10_goesOn_282 rfl (lv_at hl 0 rfl) ?_
                        refine lv_iload_n hx hb dX10_goesOn_283 rfl (lv_at hl 1 rfl) ?_
                        obtain ⟨k26, hk26, hf⟩ := jn_w hf
                        have J26 : ∀ (v25 : Int32) (M : Mem) (H : Heap) (locs : List Loc) (ls : Array Slot), lv_has ls 3 [] → va_P D classes (gws K G2 ad M) H → va_S A s.heap H locs → k26 v25 M = some (r, M') → W p l e rm_X10_goesOn s m args below meth c H locs 0 0 Q (F0 m 305 ls [.int v25, .ref (ad o)]) := by
                          intro v25 M H locs ls hl hP hS hf
                          rw [hk26] at hf
                          refine pf_X10_173 S hK hG hP hS h0 dX10_goesOn_305 hf (fun M H locs hP hS hf => ?_)
                          refine lv_goto (tgt := 339) hx hb dX10_goesOn_308 (by decide) ?_
                          exact hret _ _ _ _ _ _ dX10_goesOn_339 hP hS hf
                        refine r_if_ne (tgt := 300) S dX10_goesOn_284 (by decide) hf (fun hf => ?_) (fun hf => ?_)
                        · refine lv_iconst (v := 4) hx hb dX10_goesOn_300 (by decide) ?_
                          refine lv_goto (tgt := 305) hx hb dX10_goesOn_301 (by decide) ?_
                          exact J26 4 M H locs ls (lv_sub hl [] rfl) hP hS hf
                        · refine lv_aload_n hx hb dX10_goesOn_287 rfl (lv_at hl 0 rfl) ?_
                          refine gf_X10_170 S hK hP h0 dX10_goesOn_288 hf (fun x27 hf => ?_)
                          refine lv_aload_n hx hb dX10_goesOn_291 rfl (lv_at hl 0 rfl) ?_
                          refine gf_X10_176 S hK hP h0 dX10_goesOn_292 hf (fun x28 hf => ?_)
                          refine lv_isub hx hb dX10_goesOn_295 ?_
                          refine lv_iconst (v := 4) hx hb dX10_goesOn_296 (by decide) ?_
                          refine r_icmp_le (tgt := 304) S dX10_goesOn_297 (by decide) hf (fun hf => ?_) (fun hf => ?_)
                          · refine lv_iconst (v := 2) hx hb dX10_goesOn_304 (by decide) ?_
                            exact J26 2 M H locs ls (lv_sub hl [] rfl) hP hS hf
                          · refine lv_iconst (v := 4) hx hb dX10_goesOn_300 (by decide) ?_
                            refine lv_goto (tgt := 305) hx hb dX10_goesOn_301 (by decide) ?_
                            exact J26 4 M H locs ls (lv_sub hl [] rfl) hP hS hf
                      · refine lv_aload_n hx hb dX10_goesOn_225 rfl (lv_at hl 0 rfl) ?_
                        refine lv_aload_n hx hb dX10_goesOn_226 rfl (lv_at hl 0 rfl) ?_
                        refine gf_X10_170 S hK hP h0 dX10_goesOn_227 hf (fun x29 hf => ?_)
                        refine lv_aload_n hx hb dX10_goesOn_230 rfl (lv_at hl 0 rfl) ?_
                        refine gf_X10_176 S hK hP h0 dX10_goesOn_231 hf (fun x30 hf => ?_)
                        refine lv_isub hx hb dX10_goesOn_234 ?_
                        refine lv_iconst (v := 4) hx hb dX10_goesOn_235 (by decide) ?_
                        obtain ⟨k32, hk32, hf⟩ := jn_w hf
                        have J32 : ∀ (v31 : Int32) (M : Mem) (H : Heap) (locs : List Loc) (ls : Array Slot), lv_has ls 3 [(0, .ref (ad o)), (1, .int v9)] → va_P D classes (gws K G2 ad M) H → va_S A s.heap H locs → k32 v31 M = some (r, M') → W p l e rm_X10_goesOn s m args below meth c H locs 0 0 Q (F0 m 266 ls [.int v31, .ref (ad o)]) := by
                          intro v31 M H locs ls hl hP hS hf
                          rw [hk32] at hf
                          refine pf_X10_188 S hK hG hP hS h0 dX10_goesOn_266 hf (fun M H locs hP hS hf => ?_)
                          refine lv_aload_n hx hb dX10_goesOn_269 rfl (lv_at hl 0 rfl) ?_
                          refine lv_dup hx hb dX10_goesOn_270 rfl ?_
                          refine gf_X10_170 S hK hP h0 dX10_goesOn_271 hf (fun x33 hf => ?_)
                          refine lv_iconst (v := 1) hx hb dX10_goesOn_274 (by decide) ?_
                          refine lv_iadd hx hb dX10_goesOn_275 ?_
                          refine pf_X10_170 S hK hG hP hS h0 dX10_goesOn_276 hf (fun M H locs hP hS hf => ?_)
                          refine lv_goto (tgt := 214) hx hb dX10_goesOn_279 (by decide) ?_
                          exact ih22 M H locs ls (lv_sub hl [0, 1] rfl) hP hS hf
                        refine r_icmp_ge (tgt := 262) S dX10_goesOn_236 (by decide) hf (fun hf => ?_) (fun hf => ?_)
                        · refine lv_aload_n hx hb dX10_goesOn_262 rfl (lv_at hl 0 rfl) ?_
                          refine gf_X10_188 S hK hP h0 dX10_goesOn_263 hf (fun x34 hf => ?_)
                          exact J32 x34 M H locs ls (lv_sub hl [0, 1] rfl) hP hS hf
                        · refine lv_bipush (v := 10) hx hb dX10_goesOn_239 (by decide) ?_
                          refine lv_aload_n hx hb dX10_goesOn_241 rfl (lv_at hl 0 rfl) ?_
                          refine gf_X10_188 S hK hP h0 dX10_goesOn_242 hf (fun x35 hf => ?_)
                          refine lv_imul hx hb dX10_goesOn_245 ?_
                          refine lv_aload_n hx hb dX10_goesOn_246 rfl (lv_at hl 0 rfl) ?_
                          refine gf_X10_43 S hK hP h0 dX10_goesOn_247 hf (fun x36 hx36 hf => ?_)
                          refine lv_aload_n hx hb dX10_goesOn_250 rfl (lv_at hl 0 rfl) ?_
                          refine gf_X10_170 S hK hP h0 dX10_goesOn_251 hf (fun x37 hf => ?_)
                          refine r_iald S hK hP hx36 dX10_goesOn_254 hf (fun x38 hf => ?_)
                          refine lv_iadd hx hb dX10_goesOn_255 ?_
                          refine lv_bipush (v := 48) hx hb dX10_goesOn_256 (by decide) ?_
                          refine lv_isub hx hb dX10_goesOn_258 ?_
                          refine lv_goto (tgt := 266) hx hb dX10_goesOn_259 (by decide) ?_
                          exact J32 (((10 * x35) + x38) - 48) M H locs ls (lv_sub hl [0, 1] rfl) hP hS hf
                  exact L22 _ M H locs ls (lv_sub hl [1, 0] rfl) hP hS hf
              · obtain ⟨F39, hF39, hf⟩ := it0_g hf
                have L39 : ∀ (n : Nat) (M : Mem) (H : Heap) (locs : List Loc) (ls : Array Slot), lv_has ls 3 [(0, .ref (ad o)), (1, .int v9)] → va_P D classes (gws K G2 ad M) H → va_S A s.heap H locs → it0 F39 n M = some (r, M') → W p l e rm_X10_goesOn s m args below meth c H locs 0 0 Q (F0 m 128 ls []) := by
                  intro n
                  induction n with
                  | zero => intro M H locs ls hl hP hS hf; exact nomatch hf
                  | succ n ih39 =>
                    intro M H locs ls hl hP hS hf
                    obtain ⟨rc39, hrc39, hf⟩ := it0_w hf
                    rw [← hrc39] at ih39
                    rw [hF39] at hf
                    refine lv_aload_n hx hb dX10_goesOn_128 rfl (lv_at hl 0 rfl) ?_
                    refine lv_aload_n hx hb dX10_goesOn_129 rfl (lv_at hl 0 rfl) ?_
                    refine gf_X10_170 S hK hP h0 dX10_goesOn_130 hf (fun x40 hf => ?_)
                    refine r_callV (As := [.int x40]) (rest := []) S hK hE hst hP hS h0 (by decide) rfl (cw_X10_179 ht ⟨Nat.le_of_ble_eq_true rfl, Nat.le_of_ble_eq_true rfl⟩) rfl hl.1 rfl (Nat.le_of_ble_eq_true rfl) dX10_goesOn_133 z2 (fun _ _ h => c_X10_isLetter hG  h0 h) hf (fun x41 M H locs hP hS bx41 hf => ?_)
                    refine r_if_eq (tgt := 152) S dX10_goesOn_136 (by decide) hf (fun hf => ?_) (fun hf => ?_)
                    · refine lv_aload_n hx hb dX10_goesOn_152 rfl (lv_at hl 0 rfl) ?_
                      refine lv_iload_n hx hb dX10_goesOn_153 rfl (lv_at hl 1 rfl) ?_
                      obtain ⟨k43, hk43, hf⟩ := jn_w hf
                      have J43 : ∀ (v42 : Int32) (M : Mem) (H : Heap) (locs : List Loc) (ls : Array Slot), lv_has ls 3 [(0, .ref (ad o))] → va_P D classes (gws K G2 ad M) H → va_S A s.heap H locs → k43 v42 M = some (r, M') → W p l e rm_X10_goesOn s m args below meth c H locs 0 0 Q (F0 m 162 ls [.int v42, .ref (ad o)]) := by
                        intro v42 M H locs ls hl hP hS hf
                        rw [hk43] at hf
                        refine pf_X10_173 S hK hG hP hS h0 dX10_goesOn_162 hf (fun M H locs hP hS hf => ?_)
                        refine lv_aload_n hx hb dX10_goesOn_165 rfl (lv_at hl 0 rfl) ?_
                        refine lv_aload_n hx hb dX10_goesOn_166 rfl (lv_at hl 0 rfl) ?_
                        refine gf_X10_170 S hK hP h0 dX10_goesOn_167 hf (fun x44 hf => ?_)
                        refine lv_aload_n hx hb dX10_goesOn_170 rfl (lv_at hl 0 rfl) ?_
                        refine gf_X10_176 S hK hP h0 dX10_goesOn_171 hf (fun x45 hf => ?_)
                        refine lv_isub hx hb dX10_goesOn_174 ?_
                        refine lv_iconst (v := 1) hx hb dX10_goesOn_175 (by decide) ?_
                        obtain ⟨k47, hk47, hf⟩ := jn_w hf
                        have J47 : ∀ (v46 : Int32) (M : Mem) (H : Heap) (locs : List Loc) (ls : Array Slot), lv_has ls 3 [] → va_P D classes (gws K G2 ad M) H → va_S A s.heap H locs → k47 v46 M = some (r, M') → W p l e rm_X10_goesOn s m args below meth c H locs 0 0 Q (F0 m 192 ls [.int v46, .ref (ad o)]) := by
                          intro v46 M H locs ls hl hP hS hf
                          rw [hk47] at hf
                          refine pf_X10_182 S hK hG hP hS h0 dX10_goesOn_192 hf (fun M H locs hP hS hf => ?_)
                          refine lv_goto (tgt := 339) hx hb dX10_goesOn_195 (by decide) ?_
                          exact hret _ _ _ _ _ _ dX10_goesOn_339 hP hS hf
                        refine r_icmp_ne (tgt := 191) S dX10_goesOn_176 (by decide) hf (fun hf => ?_) (fun hf => ?_)
                        · refine lv_iconst (v := 0) hx hb dX10_goesOn_191 (by decide) ?_
                          exact J47 0 M H locs ls (lv_sub hl [] rfl) hP hS hf
                        · refine lv_aload_n hx hb dX10_goesOn_179 rfl (lv_at hl 0 rfl) ?_
                          refine gf_X10_43 S hK hP h0 dX10_goesOn_180 hf (fun x48 hx48 hf => ?_)
                          refine lv_aload_n hx hb dX10_goesOn_183 rfl (lv_at hl 0 rfl) ?_
                          refine gf_X10_176 S hK hP h0 dX10_goesOn_184 hf (fun x49 hf => ?_)
                          refine r_iald S hK hP hx48 dX10_goesOn_187 hf (fun x50 hf => ?_)
                          refine lv_goto (tgt := 192) hx hb dX10_goesOn_188 (by decide) ?_
                          exact J47 x50 M H locs ls (lv_sub hl [] rfl) hP hS hf
                      refine r_if_eq (tgt := 161) S dX10_goesOn_154 (by decide) hf (fun hf => ?_) (fun hf => ?_)
                      · refine lv_iconst (v := 1) hx hb dX10_goesOn_161 (by decide) ?_
                        exact J43 1 M H locs ls (lv_sub hl [0] rfl) hP hS hf
                      · refine lv_iconst (v := 4) hx hb dX10_goesOn_157 (by decide) ?_
                        refine lv_goto (tgt := 162) hx hb dX10_goesOn_158 (by decide) ?_
                        exact J43 4 M H locs ls (lv_sub hl [0] rfl) hP hS hf
                    · refine lv_aload_n hx hb dX10_goesOn_139 rfl (lv_at hl 0 rfl) ?_
                      refine lv_dup hx hb dX10_goesOn_140 rfl ?_
                      refine gf_X10_170 S hK hP h0 dX10_goesOn_141 hf (fun x51 hf => ?_)
                      refine lv_iconst (v := 1) hx hb dX10_goesOn_144 (by decide) ?_
                      refine lv_iadd hx hb dX10_goesOn_145 ?_
                      refine pf_X10_170 S hK hG hP hS h0 dX10_goesOn_146 hf (fun M H locs hP hS hf => ?_)
                      refine lv_goto (tgt := 128) hx hb dX10_goesOn_149 (by decide) ?_
                      exact ih39 M H locs ls (lv_sub hl [0, 1] rfl) hP hS hf
                exact L39 _ M H locs ls (lv_sub hl [1, 0] rfl) hP hS hf
            · refine lv_aload_n hx hb dX10_goesOn_109 rfl (lv_at hl 1 rfl) ?_
              refine lv_iconst (v := 0) hx hb dX10_goesOn_110 (by decide) ?_
              refine pf_X10_173 S hK hG hP hS h0 dX10_goesOn_111 hf (fun M H locs hP hS hf => ?_)
              refine lv_goto (tgt := 339) hx hb dX10_goesOn_114 (by decide) ?_
              exact hret _ _ _ _ _ _ dX10_goesOn_339 hP hS hf
          refine r_if_eq (tgt := 88) S dX10_goesOn_73 (by decide) hf (fun hf => ?_) (fun hf => ?_)
          · refine lv_iconst (v := 0) hx hb dX10_goesOn_88 (by decide) ?_
            exact J10 0 M H locs ls (lv_sub hl [0] rfl) hP hS hf
          · refine lv_iload_n hx hb dX10_goesOn_76 rfl (lv_at hl 2 rfl) ?_
            refine lv_aload_n hx hb dX10_goesOn_77 rfl (lv_at hl 0 rfl) ?_
            refine gf_X10_170 S hK hP h0 dX10_goesOn_78 hf (fun x52 hf => ?_)
            refine r_icmp_ne (tgt := 88) S dX10_goesOn_81 (by decide) hf (fun hf => ?_) (fun hf => ?_)
            · refine lv_iconst (v := 0) hx hb dX10_goesOn_88 (by decide) ?_
              exact J10 0 M H locs ls (lv_sub hl [0] rfl) hP hS hf
            · refine lv_iconst (v := 1) hx hb dX10_goesOn_84 (by decide) ?_
              refine lv_goto (tgt := 89) hx hb dX10_goesOn_85 (by decide) ?_
              exact J10 1 M H locs ls (lv_sub hl [0] rfl) hP hS hf
        refine r_icmp_ge (tgt := 72) S dX10_goesOn_42 (by decide) hf (fun hf => ?_) (fun hf => ?_)
        · exact J8 M H locs ls (lv_sub hl [0, 1, 2] rfl) hP hS hf
        · refine lv_aload_n hx hb dX10_goesOn_45 rfl (lv_at hl 0 rfl) ?_
          refine gf_X10_43 S hK hP h0 dX10_goesOn_46 hf (fun x53 hx53 hf => ?_)
          refine lv_aload_n hx hb dX10_goesOn_49 rfl (lv_at hl 0 rfl) ?_
          refine gf_X10_170 S hK hP h0 dX10_goesOn_50 hf (fun x54 hf => ?_)
          refine r_iald S hK hP hx53 dX10_goesOn_53 hf (fun x55 hf => ?_)
          refine lv_bipush (v := 32) hx hb dX10_goesOn_54 (by decide) ?_
          refine r_icmp_ne (tgt := 72) S dX10_goesOn_56 (by decide) hf (fun hf => ?_) (fun hf => ?_)
          · exact J8 M H locs ls (lv_sub hl [0, 1, 2] rfl) hP hS hf
          · refine lv_aload_n hx hb dX10_goesOn_59 rfl (lv_at hl 0 rfl) ?_
            refine lv_dup hx hb dX10_goesOn_60 rfl ?_
            refine gf_X10_170 S hK hP h0 dX10_goesOn_61 hf (fun x56 hf => ?_)
            refine lv_iconst (v := 1) hx hb dX10_goesOn_64 (by decide) ?_
            refine lv_iadd hx hb dX10_goesOn_65 ?_
            refine pf_X10_170 S hK hG hP hS h0 dX10_goesOn_66 hf (fun M H locs hP hS hf => ?_)
            refine lv_goto (tgt := 34) hx hb dX10_goesOn_69 (by decide) ?_
            exact ih5 M H locs ls (lv_sub hl [0, 1, 2] rfl) hP hS hf
    exact L5 _ M H locs ls (lv_sub hl [2, 1, 0] rfl) hP hS hf
  refine r_if_le (tgt := 27) S dX10_goesOn_4 (by decide) hf (fun hf => ?_) (fun hf => ?_)
  · refine lv_iconst (v := 0) hx hb dX10_goesOn_27 (by decide) ?_
    exact J3 0 M H locs ls (lv_sub hl [0] rfl) hP hS hf
  · refine lv_aload_n hx hb dX10_goesOn_7 rfl (lv_at hl 0 rfl) ?_
    refine gf_X10_173 S hK hP h0 dX10_goesOn_8 hf (fun x57 hf => ?_)
    refine lv_iconst (v := 1) hx hb dX10_goesOn_11 (by decide) ?_
    refine r_icmp_eq (tgt := 23) S dX10_goesOn_12 (by decide) hf (fun hf => ?_) (fun hf => ?_)
    · refine lv_iconst (v := 1) hx hb dX10_goesOn_23 (by decide) ?_
      refine lv_goto (tgt := 28) hx hb dX10_goesOn_24 (by decide) ?_
      exact J3 1 M H locs ls (lv_sub hl [0] rfl) hP hS hf
    · refine lv_aload_n hx hb dX10_goesOn_15 rfl (lv_at hl 0 rfl) ?_
      refine gf_X10_173 S hK hP h0 dX10_goesOn_16 hf (fun x58 hf => ?_)
      refine lv_iconst (v := 2) hx hb dX10_goesOn_19 (by decide) ?_
      refine r_icmp_ne (tgt := 27) S dX10_goesOn_20 (by decide) hf (fun hf => ?_) (fun hf => ?_)
      · refine lv_iconst (v := 0) hx hb dX10_goesOn_27 (by decide) ?_
        exact J3 0 M H locs ls (lv_sub hl [0] rfl) hP hS hf
      · refine lv_iconst (v := 1) hx hb dX10_goesOn_23 (by decide) ?_
        refine lv_goto (tgt := 28) hx hb dX10_goesOn_24 (by decide) ?_
        exact J3 1 M H locs ls (lv_sub hl [0] rfl) hP hS hf
section
variable {p : Program} {l : Launch} {e : Env} {R : Room} {s : State} {m : MethodId} {args : Array Value} {below : List Frame} {meth : Method} {c : Code} {H : Heap} {locs : List Loc} {cells slots : Nat} {Q : State → Prop} {cc : ByteArray} {pc : Nat} {ls : Array Slot} {rest : List Value} {nL : Nat} {D : va_G} {K : Ks} {ad : Nat → Nat} {A : Nat → Prop} {M : Mem} {β : Type} {z : β}
theorem gf_X10_182 (S : CallFix p m c cc nL s args Tw RX10) (hK : va_K D classes (gty K) s) (hP : va_P D classes (gws K G2 ad M) H) {a : Nat} {kk : Int32 → Option β} (ha : gcl G2 a = 10) (hdg : decode cc pc = .ok (.getfield 182, 3)) (hf : vv (M a 18) kk = some z) (w : ∀ x, kk x = some z → W p l e R s m args below meth c H locs cells slots Q (F0 m (pc + 3) ls (.int x :: rest))) : W p l e R s m args below meth c H locs cells slots Q (F0 m pc ls (.ref (ad a) :: rest)) := r_geti S hK hP (T := TX10) inX10 rfl (by decide) (by decide) ha (sf_X10_18 ha) k_1124 hdg hf w
end
def f_X10_isSign (o : Nat) (p1 : Int32) (M : Mem) : Option (Int32 × Mem) :=
  vv (M o 16) fun x1 =>
  if x1 = 3 then
    vv (M o 18) fun x2 =>
    if x2 = p1 then
      some (1, M)
    else
      some (0, M)
  else
    some (0, M)
def rm_X10_isSign : Room := { frames := 0, cells := 0, slots := 0, locals := 0 }
set_option maxHeartbeats 4000000 in
set_option maxRecDepth 100000 in
theorem c_X10_isSign {l : Launch} {D : va_G} {K : Ks} {ad : Nat → Nat} {A : Nat → Prop} (hG : Gok G2 ad A) {o : Nat} {p1 : Int32} (h0 : gcl G2 o = 10) {M : Mem} {r : Int32} {M' : Mem} (hf : f_X10_isSign o p1 M = some (r, M')) : Ct l E2 D K G2 ad A yX10_isSign (ws_of yX10_isSign cX10_isSign 2 (some .boolean)) rm_X10_isSign .boolean [.ref (ad o), .int p1] M r M' := by
  have hst : Est A E2 := est2
  refine Ct.ofW (by decide) (Nat.le_of_ble_eq_true rfl) ?_
  intro p e s m args below meth c Q H locs ls S hK hE hP hS hl hret
  have hx := S.1
  have hb := S.2.1
  have hown := S.2.2.2.1
  have ht := S.2.2.2.2
  have hl : lv_has ls 2 [(0, .ref (ad o)), (1, .int p1)] := hl
  unfold f_X10_isSign at hf
  refine lv_aload_n hx hb dX10_isSign_0 rfl (lv_at hl 0 rfl) ?_
  refine gf_X10_173 S hK hP h0 dX10_isSign_1 hf (fun x1 hf => ?_)
  refine lv_iconst (v := 3) hx hb dX10_isSign_4 (by decide) ?_
  refine r_icmp_ne (tgt := 20) S dX10_isSign_5 (by decide) hf (fun hf => ?_) (fun hf => ?_)
  · refine lv_iconst (v := 0) hx hb dX10_isSign_20 (by decide) ?_
    exact hret _ _ _ _ _ _ dX10_isSign_21 hP hS rfl hf
  · refine lv_aload_n hx hb dX10_isSign_8 rfl (lv_at hl 0 rfl) ?_
    refine gf_X10_182 S hK hP h0 dX10_isSign_9 hf (fun x2 hf => ?_)
    refine lv_iload_n hx hb dX10_isSign_12 rfl (lv_at hl 1 rfl) ?_
    refine r_icmp_ne (tgt := 20) S dX10_isSign_13 (by decide) hf (fun hf => ?_) (fun hf => ?_)
    · refine lv_iconst (v := 0) hx hb dX10_isSign_20 (by decide) ?_
      exact hret _ _ _ _ _ _ dX10_isSign_21 hP hS rfl hf
    · refine lv_iconst (v := 1) hx hb dX10_isSign_16 (by decide) ?_
      refine lv_goto (tgt := 21) hx hb dX10_isSign_17 (by decide) ?_
      exact hret _ _ _ _ _ _ dX10_isSign_21 hP hS rfl hf
def f_X10_isWordAt (o : Nat) (p1 : Int32) (p2 : Int32) (p3 : Int32) (p4 : Int32) (M : Mem) : Option (Int32 × Mem) :=
  jn (fun (v1 : Int32) (M : Mem) =>
    vv (M o 16) fun x3 =>
    if x3 = 1 then
      vv (M o 15) fun x4 =>
      vv (M o 14) fun x5 =>
      if (x4 - x5) = v1 then
        vv (grf G2 o 12) fun x6 =>
        vv (M o 14) fun x7 =>
        ld M x6 x7 96 fun x8 =>
        if x8 = p1 then
          vv (grf G2 o 12) fun x9 =>
          vv (M o 14) fun x10 =>
          ld M x9 (x10 + 1) 96 fun x11 =>
          if x11 = p2 then
            vv (grf G2 o 12) fun x12 =>
            vv (M o 14) fun x13 =>
            ld M x12 (x13 + 2) 96 fun x14 =>
            if x14 = p3 then
              if p4 = 0 then
                some (1, M)
              else
                vv (grf G2 o 12) fun x15 =>
                vv (M o 14) fun x16 =>
                ld M x15 (x16 + 3) 96 fun x17 =>
                if x17 = p4 then
                  some (1, M)
                else
                  some (0, M)
            else
              some (0, M)
          else
            some (0, M)
        else
          some (0, M)
      else
        some (0, M)
    else
      some (0, M)
  ) fun k2 =>
  if p4 = 0 then
    k2 3 M
  else
    k2 4 M
def rm_X10_isWordAt : Room := { frames := 0, cells := 0, slots := 0, locals := 0 }
set_option maxHeartbeats 4000000 in
set_option maxRecDepth 100000 in
theorem c_X10_isWordAt {l : Launch} {D : va_G} {K : Ks} {ad : Nat → Nat} {A : Nat → Prop} (hG : Gok G2 ad A) {o : Nat} {p1 : Int32} {p2 : Int32} {p3 : Int32} {p4 : Int32} (h0 : gcl G2 o = 10) {M : Mem} {r : Int32} {M' : Mem} (hf : f_X10_isWordAt o p1 p2 p3 p4 M = some (r, M')) : Ct l E2 D K G2 ad A yX10_isWordAt (ws_of yX10_isWordAt cX10_isWordAt 6 (some .boolean)) rm_X10_isWordAt .boolean [.ref (ad o), .int p1, .int p2, .int p3, .int p4] M r M' := by
  have hst : Est A E2 := est2
  refine Ct.ofW (by decide) (Nat.le_of_ble_eq_true rfl) ?_
  intro p e s m args below meth c Q H locs ls S hK hE hP hS hl hret
  have hx := S.1
  have hb := S.2.1
  have hown := S.2.2.2.1
  have ht := S.2.2.2.2
  have hl : lv_has ls 6 [(0, .ref (ad o)), (1, .int p1), (2, .int p2), (3, .int p3), (4, .int p4)] := hl
  unfold f_X10_isWordAt at hf
  refine lv_iload hx hb dX10_isWordAt_0 (lv_at hl 4 rfl) ?_
  obtain ⟨k2, hk2, hf⟩ := jn_w hf
  have J2 : ∀ (v1 : Int32) (M : Mem) (H : Heap) (locs : List Loc) (ls : Array Slot), lv_has ls 6 [(0, .ref (ad o)), (1, .int p1), (2, .int p2), (3, .int p3), (4, .int p4)] → va_P D classes (gws K G2 ad M) H → va_S A s.heap H locs → k2 v1 M = some (r, M') → W p l e rm_X10_isWordAt s m args below meth c H locs 0 0 Q (F0 m 10 ls [.int v1]) := by
    intro v1 M H locs ls hl hP hS hf
    rw [hk2] at hf
    refine lv_istore (lv' := [(5, .int v1), (0, .ref (ad o)), (1, .int p1), (2, .int p2), (3, .int p3), (4, .int p4)]) hx hb dX10_isWordAt_10 hl (by decide) rfl (fun ls hl => ?_)
    refine lv_aload_n hx hb dX10_isWordAt_12 rfl (lv_at hl 1 rfl) ?_
    refine gf_X10_173 S hK hP h0 dX10_isWordAt_13 hf (fun x3 hf => ?_)
    refine lv_iconst (v := 1) hx hb dX10_isWordAt_16 (by decide) ?_
    refine r_icmp_ne (tgt := 102) S dX10_isWordAt_17 (by decide) hf (fun hf => ?_) (fun hf => ?_)
    · refine lv_iconst (v := 0) hx hb dX10_isWordAt_102 (by decide) ?_
      exact hret _ _ _ _ _ _ dX10_isWordAt_103 hP hS rfl hf
    · refine lv_aload_n hx hb dX10_isWordAt_20 rfl (lv_at hl 1 rfl) ?_
      refine gf_X10_170 S hK hP h0 dX10_isWordAt_21 hf (fun x4 hf => ?_)
      refine lv_aload_n hx hb dX10_isWordAt_24 rfl (lv_at hl 1 rfl) ?_
      refine gf_X10_176 S hK hP h0 dX10_isWordAt_25 hf (fun x5 hf => ?_)
      refine lv_isub hx hb dX10_isWordAt_28 ?_
      refine lv_iload hx hb dX10_isWordAt_29 (lv_at hl 0 rfl) ?_
      refine r_icmp_ne (tgt := 102) S dX10_isWordAt_31 (by decide) hf (fun hf => ?_) (fun hf => ?_)
      · refine lv_iconst (v := 0) hx hb dX10_isWordAt_102 (by decide) ?_
        exact hret _ _ _ _ _ _ dX10_isWordAt_103 hP hS rfl hf
      · refine lv_aload_n hx hb dX10_isWordAt_34 rfl (lv_at hl 1 rfl) ?_
        refine gf_X10_43 S hK hP h0 dX10_isWordAt_35 hf (fun x6 hx6 hf => ?_)
        refine lv_aload_n hx hb dX10_isWordAt_38 rfl (lv_at hl 1 rfl) ?_
        refine gf_X10_176 S hK hP h0 dX10_isWordAt_39 hf (fun x7 hf => ?_)
        refine r_iald S hK hP hx6 dX10_isWordAt_42 hf (fun x8 hf => ?_)
        refine lv_iload_n hx hb dX10_isWordAt_43 rfl (lv_at hl 2 rfl) ?_
        refine r_icmp_ne (tgt := 102) S dX10_isWordAt_44 (by decide) hf (fun hf => ?_) (fun hf => ?_)
        · refine lv_iconst (v := 0) hx hb dX10_isWordAt_102 (by decide) ?_
          exact hret _ _ _ _ _ _ dX10_isWordAt_103 hP hS rfl hf
        · refine lv_aload_n hx hb dX10_isWordAt_47 rfl (lv_at hl 1 rfl) ?_
          refine gf_X10_43 S hK hP h0 dX10_isWordAt_48 hf (fun x9 hx9 hf => ?_)
          refine lv_aload_n hx hb dX10_isWordAt_51 rfl (lv_at hl 1 rfl) ?_
          refine gf_X10_176 S hK hP h0 dX10_isWordAt_52 hf (fun x10 hf => ?_)
          refine lv_iconst (v := 1) hx hb dX10_isWordAt_55 (by decide) ?_
          refine lv_iadd hx hb dX10_isWordAt_56 ?_
          refine r_iald S hK hP hx9 dX10_isWordAt_57 hf (fun x11 hf => ?_)
          refine lv_iload_n hx hb dX10_isWordAt_58 rfl (lv_at hl 3 rfl) ?_
          refine r_icmp_ne (tgt := 102) S dX10_isWordAt_59 (by decide) hf (fun hf => ?_) (fun hf => ?_)
          · refine lv_iconst (v := 0) hx hb dX10_isWordAt_102 (by decide) ?_
            exact hret _ _ _ _ _ _ dX10_isWordAt_103 hP hS rfl hf
          · refine lv_aload_n hx hb dX10_isWordAt_62 rfl (lv_at hl 1 rfl) ?_
            refine gf_X10_43 S hK hP h0 dX10_isWordAt_63 hf (fun x12 hx12 hf => ?_)
            refine lv_aload_n hx hb dX10_isWordAt_66 rfl (lv_at hl 1 rfl) ?_
            refine gf_X10_176 S hK hP h0 dX10_isWordAt_67 hf (fun x13 hf => ?_)
            refine lv_iconst (v := 2) hx hb dX10_isWordAt_70 (by decide) ?_
            refine lv_iadd hx hb dX10_isWordAt_71 ?_
            refine r_iald S hK hP hx12 dX10_isWordAt_72 hf (fun x14 hf => ?_)
            refine lv_iload_n hx hb dX10_isWordAt_73 rfl (lv_at hl 4 rfl) ?_
            refine r_icmp_ne (tgt := 102) S dX10_isWordAt_74 (by decide) hf (fun hf => ?_) (fun hf => ?_)
            · refine lv_iconst (v := 0) hx hb dX10_isWordAt_102 (by decide) ?_
              exact hret _ _ _ _ _ _ dX10_isWordAt_103 hP hS rfl hf
            · refine lv_iload hx hb dX10_isWordAt_77 (lv_at hl 5 rfl) ?_
              refine r_if_eq (tgt := 98) S dX10_isWordAt_79 (by decide) hf (fun hf => ?_) (fun hf => ?_)
              · refine lv_iconst (v := 1) hx hb dX10_isWordAt_98 (by decide) ?_
                refine lv_goto (tgt := 103) hx hb dX10_isWordAt_99 (by decide) ?_
                exact hret _ _ _ _ _ _ dX10_isWordAt_103 hP hS rfl hf
              · refine lv_aload_n hx hb dX10_isWordAt_82 rfl (lv_at hl 1 rfl) ?_
                refine gf_X10_43 S hK hP h0 dX10_isWordAt_83 hf (fun x15 hx15 hf => ?_)
                refine lv_aload_n hx hb dX10_isWordAt_86 rfl (lv_at hl 1 rfl) ?_
                refine gf_X10_176 S hK hP h0 dX10_isWordAt_87 hf (fun x16 hf => ?_)
                refine lv_iconst (v := 3) hx hb dX10_isWordAt_90 (by decide) ?_
                refine lv_iadd hx hb dX10_isWordAt_91 ?_
                refine r_iald S hK hP hx15 dX10_isWordAt_92 hf (fun x17 hf => ?_)
                refine lv_iload hx hb dX10_isWordAt_93 (lv_at hl 5 rfl) ?_
                refine r_icmp_ne (tgt := 102) S dX10_isWordAt_95 (by decide) hf (fun hf => ?_) (fun hf => ?_)
                · refine lv_iconst (v := 0) hx hb dX10_isWordAt_102 (by decide) ?_
                  exact hret _ _ _ _ _ _ dX10_isWordAt_103 hP hS rfl hf
                · refine lv_iconst (v := 1) hx hb dX10_isWordAt_98 (by decide) ?_
                  refine lv_goto (tgt := 103) hx hb dX10_isWordAt_99 (by decide) ?_
                  exact hret _ _ _ _ _ _ dX10_isWordAt_103 hP hS rfl hf
  refine r_if_ne (tgt := 9) S dX10_isWordAt_2 (by decide) hf (fun hf => ?_) (fun hf => ?_)
  · refine lv_iconst (v := 4) hx hb dX10_isWordAt_9 (by decide) ?_
    exact J2 4 M H locs ls (lv_sub hl [0, 1, 2, 3, 4] rfl) hP hS hf
  · refine lv_iconst (v := 3) hx hb dX10_isWordAt_5 (by decide) ?_
    refine lv_goto (tgt := 10) hx hb dX10_isWordAt_6 (by decide) ?_
    exact J2 3 M H locs ls (lv_sub hl [0, 1, 2, 3, 4] rfl) hP hS hf
def f_X10_isLong (o : Nat) (p1 : Int32) (p2 : Int32) (p3 : Int32) (p4 : Int32) (p5 : Int32) (p6 : Int32) (M : Mem) : Option (Int32 × Mem) :=
  jn (fun (v1 : Int32) (M : Mem) =>
    vv (M o 16) fun x3 =>
    if x3 = 1 then
      vv (M o 15) fun x4 =>
      vv (M o 14) fun x5 =>
      if (x4 - x5) = v1 then
        vv (grf G2 o 12) fun x6 =>
        vv (M o 14) fun x7 =>
        ld M x6 x7 96 fun x8 =>
        if x8 = p1 then
          vv (grf G2 o 12) fun x9 =>
          vv (M o 14) fun x10 =>
          ld M x9 (x10 + 1) 96 fun x11 =>
          if x11 = p2 then
            vv (grf G2 o 12) fun x12 =>
            vv (M o 14) fun x13 =>
            ld M x12 (x13 + 2) 96 fun x14 =>
            if x14 = p3 then
              vv (grf G2 o 12) fun x15 =>
              vv (M o 14) fun x16 =>
              ld M x15 (x16 + 3) 96 fun x17 =>
              if x17 = p4 then
                vv (grf G2 o 12) fun x18 =>
                vv (M o 14) fun x19 =>
                ld M x18 (x19 + 4) 96 fun x20 =>
                if x20 = p5 then
                  if p6 = 0 then
                    some (1, M)
                  else
                    vv (grf G2 o 12) fun x21 =>
                    vv (M o 14) fun x22 =>
                    ld M x21 (x22 + 5) 96 fun x23 =>
                    if x23 = p6 then
                      some (1, M)
                    else
                      some (0, M)
                else
                  some (0, M)
              else
                some (0, M)
            else
              some (0, M)
          else
            some (0, M)
        else
          some (0, M)
      else
        some (0, M)
    else
      some (0, M)
  ) fun k2 =>
  if p6 = 0 then
    k2 5 M
  else
    k2 6 M
def rm_X10_isLong : Room := { frames := 0, cells := 0, slots := 0, locals := 0 }
set_option maxHeartbeats 4000000 in
set_option maxRecDepth 100000 in
theorem c_X10_isLong {l : Launch} {D : va_G} {K : Ks} {ad : Nat → Nat} {A : Nat → Prop} (hG : Gok G2 ad A) {o : Nat} {p1 : Int32} {p2 : Int32} {p3 : Int32} {p4 : Int32} {p5 : Int32} {p6 : Int32} (h0 : gcl G2 o = 10) {M : Mem} {r : Int32} {M' : Mem} (hf : f_X10_isLong o p1 p2 p3 p4 p5 p6 M = some (r, M')) : Ct l E2 D K G2 ad A yX10_isLong (ws_of yX10_isLong cX10_isLong 8 (some .boolean)) rm_X10_isLong .boolean [.ref (ad o), .int p1, .int p2, .int p3, .int p4, .int p5, .int p6] M r M' := by
  have hst : Est A E2 := est2
  refine Ct.ofW (by decide) (Nat.le_of_ble_eq_true rfl) ?_
  intro p e s m args below meth c Q H locs ls S hK hE hP hS hl hret
  have hx := S.1
  have hb := S.2.1
  have hown := S.2.2.2.1
  have ht := S.2.2.2.2
  have hl : lv_has ls 8 [(0, .ref (ad o)), (1, .int p1), (2, .int p2), (3, .int p3), (4, .int p4), (5, .int p5), (6, .int p6)] := hl
  unfold f_X10_isLong at hf
  refine lv_iload hx hb dX10_isLong_0 (lv_at hl 6 rfl) ?_
  obtain ⟨k2, hk2, hf⟩ := jn_w hf
  have J2 : ∀ (v1 : Int32) (M : Mem) (H : Heap) (locs : List Loc) (ls : Array Slot), lv_has ls 8 [(0, .ref (ad o)), (1, .int p1), (2, .int p2), (3, .int p3), (4, .int p4), (5, .int p5), (6, .int p6)] → va_P D classes (gws K G2 ad M) H → va_S A s.heap H locs → k2 v1 M = some (r, M') → W p l e rm_X10_isLong s m args below meth c H locs 0 0 Q (F0 m 11 ls [.int v1]) := by
    intro v1 M H locs ls hl hP hS hf
    rw [hk2] at hf
    refine lv_istore (lv' := [(7, .int v1), (0, .ref (ad o)), (1, .int p1), (2, .int p2), (3, .int p3), (4, .int p4), (5, .int p5), (6, .int p6)]) hx hb dX10_isLong_11 hl (by decide) rfl (fun ls hl => ?_)
    refine lv_aload_n hx hb dX10_isLong_13 rfl (lv_at hl 1 rfl) ?_
    refine gf_X10_173 S hK hP h0 dX10_isLong_14 hf (fun x3 hf => ?_)
    refine lv_iconst (v := 1) hx hb dX10_isLong_17 (by decide) ?_
    refine r_icmp_ne (tgt := 135) S dX10_isLong_18 (by decide) hf (fun hf => ?_) (fun hf => ?_)
    · refine lv_iconst (v := 0) hx hb dX10_isLong_135 (by decide) ?_
      exact hret _ _ _ _ _ _ dX10_isLong_136 hP hS rfl hf
    · refine lv_aload_n hx hb dX10_isLong_21 rfl (lv_at hl 1 rfl) ?_
      refine gf_X10_170 S hK hP h0 dX10_isLong_22 hf (fun x4 hf => ?_)
      refine lv_aload_n hx hb dX10_isLong_25 rfl (lv_at hl 1 rfl) ?_
      refine gf_X10_176 S hK hP h0 dX10_isLong_26 hf (fun x5 hf => ?_)
      refine lv_isub hx hb dX10_isLong_29 ?_
      refine lv_iload hx hb dX10_isLong_30 (lv_at hl 0 rfl) ?_
      refine r_icmp_ne (tgt := 135) S dX10_isLong_32 (by decide) hf (fun hf => ?_) (fun hf => ?_)
      · refine lv_iconst (v := 0) hx hb dX10_isLong_135 (by decide) ?_
        exact hret _ _ _ _ _ _ dX10_isLong_136 hP hS rfl hf
      · refine lv_aload_n hx hb dX10_isLong_35 rfl (lv_at hl 1 rfl) ?_
        refine gf_X10_43 S hK hP h0 dX10_isLong_36 hf (fun x6 hx6 hf => ?_)
        refine lv_aload_n hx hb dX10_isLong_39 rfl (lv_at hl 1 rfl) ?_
        refine gf_X10_176 S hK hP h0 dX10_isLong_40 hf (fun x7 hf => ?_)
        refine r_iald S hK hP hx6 dX10_isLong_43 hf (fun x8 hf => ?_)
        refine lv_iload_n hx hb dX10_isLong_44 rfl (lv_at hl 2 rfl) ?_
        refine r_icmp_ne (tgt := 135) S dX10_isLong_45 (by decide) hf (fun hf => ?_) (fun hf => ?_)
        · refine lv_iconst (v := 0) hx hb dX10_isLong_135 (by decide) ?_
          exact hret _ _ _ _ _ _ dX10_isLong_136 hP hS rfl hf
        · refine lv_aload_n hx hb dX10_isLong_48 rfl (lv_at hl 1 rfl) ?_
          refine gf_X10_43 S hK hP h0 dX10_isLong_49 hf (fun x9 hx9 hf => ?_)
          refine lv_aload_n hx hb dX10_isLong_52 rfl (lv_at hl 1 rfl) ?_
          refine gf_X10_176 S hK hP h0 dX10_isLong_53 hf (fun x10 hf => ?_)
          refine lv_iconst (v := 1) hx hb dX10_isLong_56 (by decide) ?_
          refine lv_iadd hx hb dX10_isLong_57 ?_
          refine r_iald S hK hP hx9 dX10_isLong_58 hf (fun x11 hf => ?_)
          refine lv_iload_n hx hb dX10_isLong_59 rfl (lv_at hl 3 rfl) ?_
          refine r_icmp_ne (tgt := 135) S dX10_isLong_60 (by decide) hf (fun hf => ?_) (fun hf => ?_)
          · refine lv_iconst (v := 0) hx hb dX10_isLong_135 (by decide) ?_
            exact hret _ _ _ _ _ _ dX10_isLong_136 hP hS rfl hf
          · refine lv_aload_n hx hb dX10_isLong_63 rfl (lv_at hl 1 rfl) ?_
            refine gf_X10_43 S hK hP h0 dX10_isLong_64 hf (fun x12 hx12 hf => ?_)
            refine lv_aload_n hx hb dX10_isLong_67 rfl (lv_at hl 1 rfl) ?_
            refine gf_X10_176 S hK hP h0 dX10_isLong_68 hf (fun x13 hf => ?_)
            refine lv_iconst (v := 2) hx hb dX10_isLong_71 (by decide) ?_
            refine lv_iadd hx hb dX10_isLong_72 ?_
            refine r_iald S hK hP hx12 dX10_isLong_73 hf (fun x14 hf => ?_)
            refine lv_iload_n hx hb dX10_isLong_74 rfl (lv_at hl 4 rfl) ?_
            refine r_icmp_ne (tgt := 135) S dX10_isLong_75 (by decide) hf (fun hf => ?_) (fun hf => ?_)
            · refine lv_iconst (v := 0) hx hb dX10_isLong_135 (by decide) ?_
              exact hret _ _ _ _ _ _ dX10_isLong_136 hP hS rfl hf
            · refine lv_aload_n hx hb dX10_isLong_78 rfl (lv_at hl 1 rfl) ?_
              refine gf_X10_43 S hK hP h0 dX10_isLong_79 hf (fun x15 hx15 hf => ?_)
              refine lv_aload_n hx hb dX10_isLong_82 rfl (lv_at hl 1 rfl) ?_
              refine gf_X10_176 S hK hP h0 dX10_isLong_83 hf (fun x16 hf => ?_)
              refine lv_iconst (v := 3) hx hb dX10_isLong_86 (by decide) ?_
              refine lv_iadd hx hb dX10_isLong_87 ?_
              refine r_iald S hK hP hx15 dX10_isLong_88 hf (fun x17 hf => ?_)
              refine lv_iload hx hb dX10_isLong_89 (lv_at hl 5 rfl) ?_
              refine r_icmp_ne (tgt := 135) S dX10_isLong_91 (by decide) hf (fun hf => ?_) (fun hf => ?_)
              · refine lv_iconst (v := 0) hx hb dX10_isLong_135 (by decide) ?_
                exact hret _ _ _ _ _ _ dX10_isLong_136 hP hS rfl hf
              · refine lv_aload_n hx hb dX10_isLong_94 rfl (lv_at hl 1 rfl) ?_
                refine gf_X10_43 S hK hP h0 dX10_isLong_95 hf (fun x18 hx18 hf => ?_)
                refine lv_aload_n hx hb dX10_isLong_98 rfl (lv_at hl 1 rfl) ?_
                refine gf_X10_176 S hK hP h0 dX10_isLong_99 hf (fun x19 hf => ?_)
                refine lv_iconst (v := 4) hx hb dX10_isLong_102 (by decide) ?_
                refine lv_iadd hx hb dX10_isLong_103 ?_
                refine r_iald S hK hP hx18 dX10_isLong_104 hf (fun x20 hf => ?_)
                refine lv_iload hx hb dX10_isLong_105 (lv_at hl 6 rfl) ?_
                refine r_icmp_ne (tgt := 135) S dX10_isLong_107 (by decide) hf (fun hf => ?_) (fun hf => ?_)
                · refine lv_iconst (v := 0) hx hb dX10_isLong_135 (by decide) ?_
                  exact hret _ _ _ _ _ _ dX10_isLong_136 hP hS rfl hf
                · refine lv_iload hx hb dX10_isLong_110 (lv_at hl 7 rfl) ?_
                  refine r_if_eq (tgt := 131) S dX10_isLong_112 (by decide) hf (fun hf => ?_) (fun hf => ?_)
                  · refine lv_iconst (v := 1) hx hb dX10_isLong_131 (by decide) ?_
                    refine lv_goto (tgt := 136) hx hb dX10_isLong_132 (by decide) ?_
                    exact hret _ _ _ _ _ _ dX10_isLong_136 hP hS rfl hf
                  · refine lv_aload_n hx hb dX10_isLong_115 rfl (lv_at hl 1 rfl) ?_
                    refine gf_X10_43 S hK hP h0 dX10_isLong_116 hf (fun x21 hx21 hf => ?_)
                    refine lv_aload_n hx hb dX10_isLong_119 rfl (lv_at hl 1 rfl) ?_
                    refine gf_X10_176 S hK hP h0 dX10_isLong_120 hf (fun x22 hf => ?_)
                    refine lv_iconst (v := 5) hx hb dX10_isLong_123 (by decide) ?_
                    refine lv_iadd hx hb dX10_isLong_124 ?_
                    refine r_iald S hK hP hx21 dX10_isLong_125 hf (fun x23 hf => ?_)
                    refine lv_iload hx hb dX10_isLong_126 (lv_at hl 7 rfl) ?_
                    refine r_icmp_ne (tgt := 135) S dX10_isLong_128 (by decide) hf (fun hf => ?_) (fun hf => ?_)
                    · refine lv_iconst (v := 0) hx hb dX10_isLong_135 (by decide) ?_
                      exact hret _ _ _ _ _ _ dX10_isLong_136 hP hS rfl hf
                    · refine lv_iconst (v := 1) hx hb dX10_isLong_131 (by decide) ?_
                      refine lv_goto (tgt := 136) hx hb dX10_isLong_132 (by decide) ?_
                      exact hret _ _ _ _ _ _ dX10_isLong_136 hP hS rfl hf
  refine r_if_ne (tgt := 9) S dX10_isLong_2 (by decide) hf (fun hf => ?_) (fun hf => ?_)
  · refine lv_bipush (v := 6) hx hb dX10_isLong_9 (by decide) ?_
    exact J2 6 M H locs ls (lv_sub hl [0, 1, 2, 3, 4, 5, 6] rfl) hP hS hf
  · refine lv_iconst (v := 5) hx hb dX10_isLong_5 (by decide) ?_
    refine lv_goto (tgt := 11) hx hb dX10_isLong_6 (by decide) ?_
    exact J2 5 M H locs ls (lv_sub hl [0, 1, 2, 3, 4, 5, 6] rfl) hP hS hf
def f_X10_isWorking (o : Nat) (M : Mem) : Option (Int32 × Mem) :=
  vv (M o 16) fun x1 =>
  jn (fun (v2 : Int32) (M : Mem) =>
    if v2 = 0 then
      some (0, M)
    else
      vv (grf G2 o 12) fun x4 =>
      vv (M o 14) fun x5 =>
      ld M x4 (x5 + 3) 96 fun x6 =>
      if x6 = 107 then
        vv (grf G2 o 12) fun x7 =>
        vv (M o 14) fun x8 =>
        ld M x7 (x8 + 4) 96 fun x9 =>
        if x9 = 105 then
          vv (grf G2 o 12) fun x10 =>
          vv (M o 14) fun x11 =>
          ld M x10 (x11 + 5) 96 fun x12 =>
          if x12 = 110 then
            vv (grf G2 o 12) fun x13 =>
            vv (M o 14) fun x14 =>
            ld M x13 (x14 + 6) 96 fun x15 =>
            if x15 = 103 then
              some (1, M)
            else
              some (0, M)
          else
            some (0, M)
        else
          some (0, M)
      else
        some (0, M)
  ) fun k3 =>
  if x1 = 1 then
    vv (M o 15) fun x16 =>
    vv (M o 14) fun x17 =>
    if (x16 - x17) = 7 then
      vv (grf G2 o 12) fun x18 =>
      vv (M o 14) fun x19 =>
      ld M x18 x19 96 fun x20 =>
      if x20 = 119 then
        vv (grf G2 o 12) fun x21 =>
        vv (M o 14) fun x22 =>
        ld M x21 (x22 + 1) 96 fun x23 =>
        if x23 = 111 then
          vv (grf G2 o 12) fun x24 =>
          vv (M o 14) fun x25 =>
          ld M x24 (x25 + 2) 96 fun x26 =>
          if x26 = 114 then
            k3 1 M
          else
            k3 0 M
        else
          k3 0 M
      else
        k3 0 M
    else
      k3 0 M
  else
    k3 0 M
def rm_X10_isWorking : Room := { frames := 0, cells := 0, slots := 0, locals := 0 }
set_option maxHeartbeats 4000000 in
set_option maxRecDepth 100000 in
theorem c_X10_isWorking {l : Launch} {D : va_G} {K : Ks} {ad : Nat → Nat} {A : Nat → Prop} (hG : Gok G2 ad A) {o : Nat} (h0 : gcl G2 o = 10) {M : Mem} {r : Int32} {M' : Mem} (hf : f_X10_isWorking o M = some (r, M')) : Ct l E2 D K G2 ad A yX10_isWorking (ws_of yX10_isWorking cX10_isWorking 2 (some .boolean)) rm_X10_isWorking .boolean [.ref (ad o)] M r M' := by
  have hst : Est A E2 := est2
  refine Ct.ofW (by decide) (Nat.le_of_ble_eq_true rfl) ?_
  intro p e s m args below meth c Q H locs ls S hK hE hP hS hl hret
  have hx := S.1
  have hb := S.2.1
  have hown := S.2.2.2.1
  have ht := S.2.2.2.2
  have hl : lv_has ls 2 [(0, .ref (ad o))] := hl
  unfold f_X10_isWorking at hf
  refine lv_aload_n hx hb dX10_isWorking_0 rfl (lv_at hl 0 rfl) ?_
  refine gf_X10_173 S hK hP h0 dX10_isWorking_1 hf (fun x1 hf => ?_)
  refine lv_iconst (v := 1) hx hb dX10_isWorking_4 (by decide) ?_
  obtain ⟨k3, hk3, hf⟩ := jn_w hf
  have J3 : ∀ (v2 : Int32) (M : Mem) (H : Heap) (locs : List Loc) (ls : Array Slot), lv_has ls 2 [(0, .ref (ad o))] → va_P D classes (gws K G2 ad M) H → va_S A s.heap H locs → k3 v2 M = some (r, M') → W p l e rm_X10_isWorking s m args below meth c H locs 0 0 Q (F0 m 73 ls [.int v2]) := by
    intro v2 M H locs ls hl hP hS hf
    rw [hk3] at hf
    refine lv_istore_n (lv' := [(1, .int v2), (0, .ref (ad o))]) hx hb dX10_isWorking_73 rfl hl (by decide) rfl (fun ls hl => ?_)
    refine lv_iload_n hx hb dX10_isWorking_74 rfl (lv_at hl 0 rfl) ?_
    refine r_if_eq (tgt := 147) S dX10_isWorking_75 (by decide) hf (fun hf => ?_) (fun hf => ?_)
    · refine lv_iconst (v := 0) hx hb dX10_isWorking_147 (by decide) ?_
      exact hret _ _ _ _ _ _ dX10_isWorking_148 hP hS rfl hf
    · refine lv_aload_n hx hb dX10_isWorking_78 rfl (lv_at hl 1 rfl) ?_
      refine gf_X10_43 S hK hP h0 dX10_isWorking_79 hf (fun x4 hx4 hf => ?_)
      refine lv_aload_n hx hb dX10_isWorking_82 rfl (lv_at hl 1 rfl) ?_
      refine gf_X10_176 S hK hP h0 dX10_isWorking_83 hf (fun x5 hf => ?_)
      refine lv_iconst (v := 3) hx hb dX10_isWorking_86 (by decide) ?_
      refine lv_iadd hx hb dX10_isWorking_87 ?_
      refine r_iald S hK hP hx4 dX10_isWorking_88 hf (fun x6 hf => ?_)
      refine lv_bipush (v := 107) hx hb dX10_isWorking_89 (by decide) ?_
      refine r_icmp_ne (tgt := 147) S dX10_isWorking_91 (by decide) hf (fun hf => ?_) (fun hf => ?_)
      · refine lv_iconst (v := 0) hx hb dX10_isWorking_147 (by decide) ?_
        exact hret _ _ _ _ _ _ dX10_isWorking_148 hP hS rfl hf
      · refine lv_aload_n hx hb dX10_isWorking_94 rfl (lv_at hl 1 rfl) ?_
        refine gf_X10_43 S hK hP h0 dX10_isWorking_95 hf (fun x7 hx7 hf => ?_)
        refine lv_aload_n hx hb dX10_isWorking_98 rfl (lv_at hl 1 rfl) ?_
        refine gf_X10_176 S hK hP h0 dX10_isWorking_99 hf (fun x8 hf => ?_)
        refine lv_iconst (v := 4) hx hb dX10_isWorking_102 (by decide) ?_
        refine lv_iadd hx hb dX10_isWorking_103 ?_
        refine r_iald S hK hP hx7 dX10_isWorking_104 hf (fun x9 hf => ?_)
        refine lv_bipush (v := 105) hx hb dX10_isWorking_105 (by decide) ?_
        refine r_icmp_ne (tgt := 147) S dX10_isWorking_107 (by decide) hf (fun hf => ?_) (fun hf => ?_)
        · refine lv_iconst (v := 0) hx hb dX10_isWorking_147 (by decide) ?_
          exact hret _ _ _ _ _ _ dX10_isWorking_148 hP hS rfl hf
        · refine lv_aload_n hx hb dX10_isWorking_110 rfl (lv_at hl 1 rfl) ?_
          refine gf_X10_43 S hK hP h0 dX10_isWorking_111 hf (fun x10 hx10 hf => ?_)
          refine lv_aload_n hx hb dX10_isWorking_114 rfl (lv_at hl 1 rfl) ?_
          refine gf_X10_176 S hK hP h0 dX10_isWorking_115 hf (fun x11 hf => ?_)
          refine lv_iconst (v := 5) hx hb dX10_isWorking_118 (by decide) ?_
          refine lv_iadd hx hb dX10_isWorking_119 ?_
          refine r_iald S hK hP hx10 dX10_isWorking_120 hf (fun x12 hf => ?_)
          refine lv_bipush (v := 110) hx hb dX10_isWorking_121 (by decide) ?_
          refine r_icmp_ne (tgt := 147) S dX10_isWorking_123 (by decide) hf (fun hf => ?_) (fun hf => ?_)
          · refine lv_iconst (v := 0) hx hb dX10_isWorking_147 (by decide) ?_
            exact hret _ _ _ _ _ _ dX10_isWorking_148 hP hS rfl hf
          · refine lv_aload_n hx hb dX10_isWorking_126 rfl (lv_at hl 1 rfl) ?_
            refine gf_X10_43 S hK hP h0 dX10_isWorking_127 hf (fun x13 hx13 hf => ?_)
            refine lv_aload_n hx hb dX10_isWorking_130 rfl (lv_at hl 1 rfl) ?_
            refine gf_X10_176 S hK hP h0 dX10_isWorking_131 hf (fun x14 hf => ?_)
            refine lv_bipush (v := 6) hx hb dX10_isWorking_134 (by decide) ?_
            refine lv_iadd hx hb dX10_isWorking_136 ?_
            refine r_iald S hK hP hx13 dX10_isWorking_137 hf (fun x15 hf => ?_)
            refine lv_bipush (v := 103) hx hb dX10_isWorking_138 (by decide) ?_
            refine r_icmp_ne (tgt := 147) S dX10_isWorking_140 (by decide) hf (fun hf => ?_) (fun hf => ?_)
            · refine lv_iconst (v := 0) hx hb dX10_isWorking_147 (by decide) ?_
              exact hret _ _ _ _ _ _ dX10_isWorking_148 hP hS rfl hf
            · refine lv_iconst (v := 1) hx hb dX10_isWorking_143 (by decide) ?_
              refine lv_goto (tgt := 148) hx hb dX10_isWorking_144 (by decide) ?_
              exact hret _ _ _ _ _ _ dX10_isWorking_148 hP hS rfl hf
  refine r_icmp_ne (tgt := 72) S dX10_isWorking_5 (by decide) hf (fun hf => ?_) (fun hf => ?_)
  · refine lv_iconst (v := 0) hx hb dX10_isWorking_72 (by decide) ?_
    exact J3 0 M H locs ls (lv_sub hl [0] rfl) hP hS hf
  · refine lv_aload_n hx hb dX10_isWorking_8 rfl (lv_at hl 0 rfl) ?_
    refine gf_X10_170 S hK hP h0 dX10_isWorking_9 hf (fun x16 hf => ?_)
    refine lv_aload_n hx hb dX10_isWorking_12 rfl (lv_at hl 0 rfl) ?_
    refine gf_X10_176 S hK hP h0 dX10_isWorking_13 hf (fun x17 hf => ?_)
    refine lv_isub hx hb dX10_isWorking_16 ?_
    refine lv_bipush (v := 7) hx hb dX10_isWorking_17 (by decide) ?_
    refine r_icmp_ne (tgt := 72) S dX10_isWorking_19 (by decide) hf (fun hf => ?_) (fun hf => ?_)
    · refine lv_iconst (v := 0) hx hb dX10_isWorking_72 (by decide) ?_
      exact J3 0 M H locs ls (lv_sub hl [0] rfl) hP hS hf
    · refine lv_aload_n hx hb dX10_isWorking_22 rfl (lv_at hl 0 rfl) ?_
      refine gf_X10_43 S hK hP h0 dX10_isWorking_23 hf (fun x18 hx18 hf => ?_)
      refine lv_aload_n hx hb dX10_isWorking_26 rfl (lv_at hl 0 rfl) ?_
      refine gf_X10_176 S hK hP h0 dX10_isWorking_27 hf (fun x19 hf => ?_)
      refine r_iald S hK hP hx18 dX10_isWorking_30 hf (fun x20 hf => ?_)
      refine lv_bipush (v := 119) hx hb dX10_isWorking_31 (by decide) ?_
      refine r_icmp_ne (tgt := 72) S dX10_isWorking_33 (by decide) hf (fun hf => ?_) (fun hf => ?_)
      · refine lv_iconst (v := 0) hx hb dX10_isWorking_72 (by decide) ?_
        exact J3 0 M H locs ls (lv_sub hl [0] rfl) hP hS hf
      · refine lv_aload_n hx hb dX10_isWorking_36 rfl (lv_at hl 0 rfl) ?_
        refine gf_X10_43 S hK hP h0 dX10_isWorking_37 hf (fun x21 hx21 hf => ?_)
        refine lv_aload_n hx hb dX10_isWorking_40 rfl (lv_at hl 0 rfl) ?_
        refine gf_X10_176 S hK hP h0 dX10_isWorking_41 hf (fun x22 hf => ?_)
        refine lv_iconst (v := 1) hx hb dX10_isWorking_44 (by decide) ?_
        refine lv_iadd hx hb dX10_isWorking_45 ?_
        refine r_iald S hK hP hx21 dX10_isWorking_46 hf (fun x23 hf => ?_)
        refine lv_bipush (v := 111) hx hb dX10_isWorking_47 (by decide) ?_
        refine r_icmp_ne (tgt := 72) S dX10_isWorking_49 (by decide) hf (fun hf => ?_) (fun hf => ?_)
        · refine lv_iconst (v := 0) hx hb dX10_isWorking_72 (by decide) ?_
          exact J3 0 M H locs ls (lv_sub hl [0] rfl) hP hS hf
        · refine lv_aload_n hx hb dX10_isWorking_52 rfl (lv_at hl 0 rfl) ?_
          refine gf_X10_43 S hK hP h0 dX10_isWorking_53 hf (fun x24 hx24 hf => ?_)
          refine lv_aload_n hx hb dX10_isWorking_56 rfl (lv_at hl 0 rfl) ?_
          refine gf_X10_176 S hK hP h0 dX10_isWorking_57 hf (fun x25 hf => ?_)
          refine lv_iconst (v := 2) hx hb dX10_isWorking_60 (by decide) ?_
          refine lv_iadd hx hb dX10_isWorking_61 ?_
          refine r_iald S hK hP hx24 dX10_isWorking_62 hf (fun x26 hf => ?_)
          refine lv_bipush (v := 114) hx hb dX10_isWorking_63 (by decide) ?_
          refine r_icmp_ne (tgt := 72) S dX10_isWorking_65 (by decide) hf (fun hf => ?_) (fun hf => ?_)
          · refine lv_iconst (v := 0) hx hb dX10_isWorking_72 (by decide) ?_
            exact J3 0 M H locs ls (lv_sub hl [0] rfl) hP hS hf
          · refine lv_iconst (v := 1) hx hb dX10_isWorking_68 (by decide) ?_
            refine lv_goto (tgt := 73) hx hb dX10_isWorking_69 (by decide) ?_
            exact J3 1 M H locs ls (lv_sub hl [0] rfl) hP hS hf
theorem cw_X10_191 {R : Room} {s : State} {args : Array Value} (ht : ∀ w ∈ Tw, w.before args s = true) (hR : rm_X10_isLong.frames + 1 ≤ R.frames ∧ 8 + (8 + 11) + rm_X10_isLong.locals ≤ R.locals) : CallW R s args RX10 RX10 191 yX10_isLong cX10_isLong 8 (some .boolean) (ws_of yX10_isLong cX10_isLong 8 (some .boolean)) rm_X10_isLong 0 0 6 := cw_V 6 ht k_1371 k_1373 k_37 k_73 k_1374 (by decide +kernel) rfl rfl hR
theorem cw_X10_195 {R : Room} {s : State} {args : Array Value} (ht : ∀ w ∈ Tw, w.before args s = true) (hR : rm_X10_isWordAt.frames + 1 ≤ R.frames ∧ 8 + (6 + 11) + rm_X10_isWordAt.locals ≤ R.locals) : CallW R s args RX10 RX10 195 yX10_isWordAt cX10_isWordAt 6 (some .boolean) (ws_of yX10_isWordAt cX10_isWordAt 6 (some .boolean)) rm_X10_isWordAt 0 0 4 := cw_V 4 ht k_1375 k_1377 k_38 k_73 k_1378 (by decide +kernel) rfl rfl hR
theorem cw_X10_199 {R : Room} {s : State} {args : Array Value} (ht : ∀ w ∈ Tw, w.before args s = true) (hR : rm_X10_isWorking.frames + 1 ≤ R.frames ∧ 8 + (2 + 11) + rm_X10_isWorking.locals ≤ R.locals) : CallW R s args RX10 RX10 199 yX10_isWorking cX10_isWorking 2 (some .boolean) (ws_of yX10_isWorking cX10_isWorking 2 (some .boolean)) rm_X10_isWorking 0 0 0 := cw_V 0 ht k_1379 k_1381 k_39 k_73 k_1382 (by decide +kernel) rfl rfl hR
theorem cw_X10_203 {R : Room} {s : State} {args : Array Value} (ht : ∀ w ∈ Tw, w.before args s = true) (hR : rm_X10_goesOn.frames + 1 ≤ R.frames ∧ 8 + (3 + 11) + rm_X10_goesOn.locals ≤ R.locals) : CallW R s args RX10 RX10 203 yX10_goesOn cX10_goesOn 3 none (ws_of yX10_goesOn cX10_goesOn 3 none) rm_X10_goesOn 0 0 0 := cw_V 0 ht k_1351 k_1353 k_33 k_73 k_1354 (by decide +kernel) rfl rfl hR
def f_X10_key (o : Nat) (M : Mem) : Option (Int32 × Mem) :=
  bd (f_X10_isLong o 115 112 114 101 97 100 M) fun x1 M =>
  if x1 = 0 then
    bd (f_X10_isWordAt o 111 100 100 0 M) fun x2 M =>
    if x2 = 0 then
      bd (f_X10_isWorking o M) fun x3 M =>
      if x3 = 0 then
        some ((-1), M)
      else
        bd (f_X10_goesOn o M) fun _ M =>
        vv (M o 16) fun x5 =>
        if x5 = 2 then
          vv (M o 17) fun x6 =>
          if x6 < 12 then
            vv (M o 17) fun x7 =>
            some (x7, M)
          else
            some ((-1), M)
        else
          some ((-1), M)
    else
      some (13, M)
  else
    some (12, M)
def rm_X10_key : Room := { frames := 3, cells := 0, slots := 0, locals := 68 }
set_option maxHeartbeats 4000000 in
set_option maxRecDepth 100000 in
theorem c_X10_key {l : Launch} {D : va_G} {K : Ks} {ad : Nat → Nat} {A : Nat → Prop} (hG : Gok G2 ad A) {o : Nat} (h0 : gcl G2 o = 10) {M : Mem} {r : Int32} {M' : Mem} (hf : f_X10_key o M = some (r, M')) : Ct l E2 D K G2 ad A yX10_key (ws_of yX10_key cX10_key 1 (some .int)) rm_X10_key .int [.ref (ad o)] M r M' := by
  have hst : Est A E2 := est2
  refine Ct.ofW (by decide) (Nat.le_of_ble_eq_true rfl) ?_
  intro p e s m args below meth c Q H locs ls S hK hE hP hS hl hret
  have hx := S.1
  have hb := S.2.1
  have hown := S.2.2.2.1
  have ht := S.2.2.2.2
  have hl : lv_has ls 1 [(0, .ref (ad o))] := hl
  unfold f_X10_key at hf
  refine lv_aload_n hx hb dX10_key_0 rfl (lv_at hl 0 rfl) ?_
  refine lv_bipush (v := 115) hx hb dX10_key_1 (by decide) ?_
  refine lv_bipush (v := 112) hx hb dX10_key_3 (by decide) ?_
  refine lv_bipush (v := 114) hx hb dX10_key_5 (by decide) ?_
  refine lv_bipush (v := 101) hx hb dX10_key_7 (by decide) ?_
  refine lv_bipush (v := 97) hx hb dX10_key_9 (by decide) ?_
  refine lv_bipush (v := 100) hx hb dX10_key_11 (by decide) ?_
  refine r_callV (As := [.int 115, .int 112, .int 114, .int 101, .int 97, .int 100]) (rest := []) S hK hE hst hP hS h0 (by decide) rfl (cw_X10_191 ht ⟨Nat.le_of_ble_eq_true rfl, Nat.le_of_ble_eq_true rfl⟩) rfl hl.1 rfl (Nat.le_of_ble_eq_true rfl) dX10_key_13 z2 (fun _ _ h => c_X10_isLong hG  h0 h) hf (fun x1 M H locs hP hS bx1 hf => ?_)
  refine r_if_eq (tgt := 22) S dX10_key_16 (by decide) hf (fun hf => ?_) (fun hf => ?_)
  · refine lv_aload_n hx hb dX10_key_22 rfl (lv_at hl 0 rfl) ?_
    refine lv_bipush (v := 111) hx hb dX10_key_23 (by decide) ?_
    refine lv_bipush (v := 100) hx hb dX10_key_25 (by decide) ?_
    refine lv_bipush (v := 100) hx hb dX10_key_27 (by decide) ?_
    refine lv_iconst (v := 0) hx hb dX10_key_29 (by decide) ?_
    refine r_callV (As := [.int 111, .int 100, .int 100, .int 0]) (rest := []) S hK hE hst hP hS h0 (by decide) rfl (cw_X10_195 ht ⟨Nat.le_of_ble_eq_true rfl, Nat.le_of_ble_eq_true rfl⟩) rfl hl.1 rfl (Nat.le_of_ble_eq_true rfl) dX10_key_30 z2 (fun _ _ h => c_X10_isWordAt hG  h0 h) hf (fun x2 M H locs hP hS bx2 hf => ?_)
    refine r_if_eq (tgt := 39) S dX10_key_33 (by decide) hf (fun hf => ?_) (fun hf => ?_)
    · refine lv_aload_n hx hb dX10_key_39 rfl (lv_at hl 0 rfl) ?_
      refine r_callV (As := []) (rest := []) S hK hE hst hP hS h0 (by decide) rfl (cw_X10_199 ht ⟨Nat.le_of_ble_eq_true rfl, Nat.le_of_ble_eq_true rfl⟩) rfl hl.1 rfl (Nat.le_of_ble_eq_true rfl) dX10_key_40 z2 (fun _ _ h => c_X10_isWorking hG  h0 h) hf (fun x3 M H locs hP hS bx3 hf => ?_)
      refine r_if_ne (tgt := 48) S dX10_key_43 (by decide) hf (fun hf => ?_) (fun hf => ?_)
      · refine lv_aload_n hx hb dX10_key_48 rfl (lv_at hl 0 rfl) ?_
        refine r_callVv (As := []) (rest := []) S hK hE hst hP hS h0 (by decide) rfl (cw_X10_203 ht ⟨Nat.le_of_ble_eq_true rfl, Nat.le_of_ble_eq_true rfl⟩) rfl hl.1 rfl (Nat.le_of_ble_eq_true rfl) dX10_key_49 z2 (fun _ _ h => c_X10_goesOn hG  h0 h) hf (fun x4 M H locs hP hS hf => ?_)
        refine lv_aload_n hx hb dX10_key_52 rfl (lv_at hl 0 rfl) ?_
        refine gf_X10_173 S hK hP h0 dX10_key_53 hf (fun x5 hf => ?_)
        refine lv_iconst (v := 2) hx hb dX10_key_56 (by decide) ?_
        refine r_icmp_ne (tgt := 76) S dX10_key_57 (by decide) hf (fun hf => ?_) (fun hf => ?_)
        · refine lv_iconst (v := (-1)) hx hb dX10_key_76 (by decide) ?_
          exact hret _ _ _ _ _ _ dX10_key_77 hP hS rfl hf
        · refine lv_aload_n hx hb dX10_key_60 rfl (lv_at hl 0 rfl) ?_
          refine gf_X10_188 S hK hP h0 dX10_key_61 hf (fun x6 hf => ?_)
          refine lv_bipush (v := 12) hx hb dX10_key_64 (by decide) ?_
          refine r_icmp_ge (tgt := 76) S dX10_key_66 (by decide) hf (fun hf => ?_) (fun hf => ?_)
          · refine lv_iconst (v := (-1)) hx hb dX10_key_76 (by decide) ?_
            exact hret _ _ _ _ _ _ dX10_key_77 hP hS rfl hf
          · refine lv_aload_n hx hb dX10_key_69 rfl (lv_at hl 0 rfl) ?_
            refine gf_X10_188 S hK hP h0 dX10_key_70 hf (fun x7 hf => ?_)
            refine lv_goto (tgt := 77) hx hb dX10_key_73 (by decide) ?_
            exact hret _ _ _ _ _ _ dX10_key_77 hP hS rfl hf
      · refine lv_iconst (v := (-1)) hx hb dX10_key_46 (by decide) ?_
        exact hret _ _ _ _ _ _ dX10_key_47 hP hS rfl hf
    · refine lv_bipush (v := 13) hx hb dX10_key_36 (by decide) ?_
      exact hret _ _ _ _ _ _ dX10_key_38 hP hS rfl hf
  · refine lv_bipush (v := 12) hx hb dX10_key_19 (by decide) ?_
    exact hret _ _ _ _ _ _ dX10_key_21 hP hS rfl hf
def f_X10_isName (p0 : Int32) (p1 : Int32) (M : Mem) : Option (Int32 × Mem) :=
  if p0 = 12 then
    if p1 = 110 then
      some (1, M)
    else
      if p1 = 121 then
        some (1, M)
      else
        some (0, M)
  else
  if p0 = 13 then
    if p1 = 99 then
      some (1, M)
    else
      if p1 = 100 then
        some (1, M)
      else
        if p1 = 97 then
          some (1, M)
        else
          some (0, M)
  else
  if p1 = 110 then
    some (1, M)
  else
    if p1 = 102 then
      some (1, M)
    else
      if p1 = 105 then
        some (1, M)
      else
        some (0, M)
def rm_X10_isName : Room := { frames := 0, cells := 0, slots := 0, locals := 0 }
set_option maxHeartbeats 4000000 in
set_option maxRecDepth 100000 in
theorem c_X10_isName {l : Launch} {D : va_G} {K : Ks} {ad : Nat → Nat} {A : Nat → Prop} (hG : Gok G2 ad A) {p0 : Int32} {p1 : Int32}  {M : Mem} {r : Int32} {M' : Mem} (hf : f_X10_isName p0 p1 M = some (r, M')) : Ct l E2 D K G2 ad A yX10_isName (ws_of yX10_isName cX10_isName 2 (some .boolean)) rm_X10_isName .boolean [.int p0, .int p1] M r M' := by
  have hst : Est A E2 := est2
  refine Ct.ofW (by decide) (Nat.le_of_ble_eq_true rfl) ?_
  intro p e s m args below meth c Q H locs ls S hK hE hP hS hl hret
  have hx := S.1
  have hb := S.2.1
  have hown := S.2.2.2.1
  have ht := S.2.2.2.2
  have hl : lv_has ls 2 [(0, .int p0), (1, .int p1)] := hl
  unfold f_X10_isName at hf
  refine lv_iload_n hx hb dX10_isName_0 rfl (lv_at hl 0 rfl) ?_
  refine r_case hf (fun e1 hf => ?_) (fun n2 hf => ?_)
  · refine lv_lookup (x := p0) (off := 27) (tgt := 28) hx hb dX10_isName_1 (by decide) (by rw [e1] <;> rfl) (by decide) ?_
    refine lv_iload_n hx hb dX10_isName_28 rfl (lv_at hl 1 rfl) ?_
    refine lv_bipush (v := 110) hx hb dX10_isName_29 (by decide) ?_
    refine r_icmp_eq (tgt := 40) S dX10_isName_31 (by decide) hf (fun hf => ?_) (fun hf => ?_)
    · refine lv_iconst (v := 1) hx hb dX10_isName_40 (by decide) ?_
      refine lv_goto (tgt := 45) hx hb dX10_isName_41 (by decide) ?_
      exact hret _ _ _ _ _ _ dX10_isName_45 hP hS rfl hf
    · refine lv_iload_n hx hb dX10_isName_34 rfl (lv_at hl 1 rfl) ?_
      refine lv_bipush (v := 121) hx hb dX10_isName_35 (by decide) ?_
      refine r_icmp_ne (tgt := 44) S dX10_isName_37 (by decide) hf (fun hf => ?_) (fun hf => ?_)
      · refine lv_iconst (v := 0) hx hb dX10_isName_44 (by decide) ?_
        exact hret _ _ _ _ _ _ dX10_isName_45 hP hS rfl hf
      · refine lv_iconst (v := 1) hx hb dX10_isName_40 (by decide) ?_
        refine lv_goto (tgt := 45) hx hb dX10_isName_41 (by decide) ?_
        exact hret _ _ _ _ _ _ dX10_isName_45 hP hS rfl hf
  refine r_case hf (fun e3 hf => ?_) (fun n4 hf => ?_)
  · refine lv_lookup (x := p0) (off := 45) (tgt := 46) hx hb dX10_isName_1 (by decide) (by rw [e3] <;> rfl) (by decide) ?_
    refine lv_iload_n hx hb dX10_isName_46 rfl (lv_at hl 1 rfl) ?_
    refine lv_bipush (v := 99) hx hb dX10_isName_47 (by decide) ?_
    refine r_icmp_eq (tgt := 64) S dX10_isName_49 (by decide) hf (fun hf => ?_) (fun hf => ?_)
    · refine lv_iconst (v := 1) hx hb dX10_isName_64 (by decide) ?_
      refine lv_goto (tgt := 69) hx hb dX10_isName_65 (by decide) ?_
      exact hret _ _ _ _ _ _ dX10_isName_69 hP hS rfl hf
    · refine lv_iload_n hx hb dX10_isName_52 rfl (lv_at hl 1 rfl) ?_
      refine lv_bipush (v := 100) hx hb dX10_isName_53 (by decide) ?_
      refine r_icmp_eq (tgt := 64) S dX10_isName_55 (by decide) hf (fun hf => ?_) (fun hf => ?_)
      · refine lv_iconst (v := 1) hx hb dX10_isName_64 (by decide) ?_
        refine lv_goto (tgt := 69) hx hb dX10_isName_65 (by decide) ?_
        exact hret _ _ _ _ _ _ dX10_isName_69 hP hS rfl hf
      · refine lv_iload_n hx hb dX10_isName_58 rfl (lv_at hl 1 rfl) ?_
        refine lv_bipush (v := 97) hx hb dX10_isName_59 (by decide) ?_
        refine r_icmp_ne (tgt := 68) S dX10_isName_61 (by decide) hf (fun hf => ?_) (fun hf => ?_)
        · refine lv_iconst (v := 0) hx hb dX10_isName_68 (by decide) ?_
          exact hret _ _ _ _ _ _ dX10_isName_69 hP hS rfl hf
        · refine lv_iconst (v := 1) hx hb dX10_isName_64 (by decide) ?_
          refine lv_goto (tgt := 69) hx hb dX10_isName_65 (by decide) ?_
          exact hret _ _ _ _ _ _ dX10_isName_69 hP hS rfl hf
  refine lv_lookup (x := p0) (off := 69) (tgt := 70) hx hb dX10_isName_1 (by decide) (by show Op.lookupswitch.offset [(12, 27), (13, 45)] _ _ = _; rw [lv_osw n2 (by decide), lv_osw n4 (by decide)] <;> rfl) (by decide) ?_
  refine lv_iload_n hx hb dX10_isName_70 rfl (lv_at hl 1 rfl) ?_
  refine lv_bipush (v := 110) hx hb dX10_isName_71 (by decide) ?_
  refine r_icmp_eq (tgt := 88) S dX10_isName_73 (by decide) hf (fun hf => ?_) (fun hf => ?_)
  · refine lv_iconst (v := 1) hx hb dX10_isName_88 (by decide) ?_
    refine lv_goto (tgt := 93) hx hb dX10_isName_89 (by decide) ?_
    exact hret _ _ _ _ _ _ dX10_isName_93 hP hS rfl hf
  · refine lv_iload_n hx hb dX10_isName_76 rfl (lv_at hl 1 rfl) ?_
    refine lv_bipush (v := 102) hx hb dX10_isName_77 (by decide) ?_
    refine r_icmp_eq (tgt := 88) S dX10_isName_79 (by decide) hf (fun hf => ?_) (fun hf => ?_)
    · refine lv_iconst (v := 1) hx hb dX10_isName_88 (by decide) ?_
      refine lv_goto (tgt := 93) hx hb dX10_isName_89 (by decide) ?_
      exact hret _ _ _ _ _ _ dX10_isName_93 hP hS rfl hf
    · refine lv_iload_n hx hb dX10_isName_82 rfl (lv_at hl 1 rfl) ?_
      refine lv_bipush (v := 105) hx hb dX10_isName_83 (by decide) ?_
      refine r_icmp_ne (tgt := 92) S dX10_isName_85 (by decide) hf (fun hf => ?_) (fun hf => ?_)
      · refine lv_iconst (v := 0) hx hb dX10_isName_92 (by decide) ?_
        exact hret _ _ _ _ _ _ dX10_isName_93 hP hS rfl hf
      · refine lv_iconst (v := 1) hx hb dX10_isName_88 (by decide) ?_
        refine lv_goto (tgt := 93) hx hb dX10_isName_89 (by decide) ?_
        exact hret _ _ _ _ _ _ dX10_isName_93 hP hS rfl hf
section
variable {p : Program} {l : Launch} {e : Env} {R : Room} {s : State} {m : MethodId} {args : Array Value} {below : List Frame} {meth : Method} {c : Code} {H : Heap} {locs : List Loc} {cells slots : Nat} {Q : State → Prop} {cc : ByteArray} {pc : Nat} {ls : Array Slot} {rest : List Value} {nL : Nat} {D : va_G} {K : Ks} {ad : Nat → Nat} {A : Nat → Prop} {M : Mem} {β : Type} {z : β}
theorem gf_X10_206 (S : CallFix p m c cc nL s args Tw RX10) (hK : va_K D classes (gty K) s) (hP : va_P D classes (gws K G2 ad M) H) {a : Nat} {kk : Int32 → Option β} (ha : gcl G2 a = 10) (hdg : decode cc pc = .ok (.getfield 206, 3)) (hf : vv (M a 22) kk = some z) (w : ∀ x, kk x = some z → W p l e R s m args below meth c H locs cells slots Q (F0 m (pc + 3) ls (.int x :: rest))) : W p l e R s m args below meth c H locs cells slots Q (F0 m pc ls (.ref (ad a) :: rest)) := r_geti S hK hP (T := TX10) inX10 rfl (by decide) (by decide) ha (sf_X10_22 ha) k_1128 hdg hf w
end
section
variable {p : Program} {l : Launch} {e : Env} {R : Room} {s : State} {m : MethodId} {args : Array Value} {below : List Frame} {meth : Method} {c : Code} {H : Heap} {locs : List Loc} {cells slots : Nat} {Q : State → Prop} {cc : ByteArray} {pc : Nat} {ls : Array Slot} {rest : List Value} {nL : Nat} {D : va_G} {K : Ks} {ad : Nat → Nat} {A : Nat → Prop} {M : Mem} {β : Type} {z : β}
theorem gf_X10_209 (S : CallFix p m c cc nL s args Tw RX10) (hK : va_K D classes (gty K) s) (hP : va_P D classes (gws K G2 ad M) H) {a : Nat} {kk : Int32 → Option β} (ha : gcl G2 a = 10) (hdg : decode cc pc = .ok (.getfield 209, 3)) (hf : vv (M a 21) kk = some z) (w : ∀ x, kk x = some z → W p l e R s m args below meth c H locs cells slots Q (F0 m (pc + 3) ls (.int x :: rest))) : W p l e R s m args below meth c H locs cells slots Q (F0 m pc ls (.ref (ad a) :: rest)) := r_geti S hK hP (T := TX10) inX10 rfl (by decide) (by decide) ha (sf_X10_21 ha) k_1127 hdg hf w
end
section
variable {p : Program} {l : Launch} {e : Env} {R : Room} {s : State} {m : MethodId} {args : Array Value} {below : List Frame} {meth : Method} {c : Code} {H : Heap} {locs : List Loc} {cells slots : Nat} {Q : State → Prop} {cc : ByteArray} {pc : Nat} {ls : Array Slot} {rest : List Value} {nL : Nat} {D : va_G} {K : Ks} {ad : Nat → Nat} {A : Nat → Prop} {M : Mem} {β : Type} {z : β}
theorem pf_X10_209 (S : CallFix p m c cc nL s args Tw RX10) (hK : va_K D classes (gty K) s) (hG : Gok G2 ad A) (hP : va_P D classes (gws K G2 ad M) H) (hS : va_S A s.heap H locs) {a : Nat} {v : Int32} {kk : Mem → Option β} (ha : gcl G2 a = 10) (hdg : decode cc pc = .ok (.putfield 209, 3)) (hf : mm (up M a 21 v) kk = some z) (w : ∀ M H locs, va_P D classes (gws K G2 ad M) H → va_S A s.heap H locs → kk M = some z → W p l e R s m args below meth c H locs cells slots Q (F0 m (pc + 3) ls rest)) : W p l e R s m args below meth c H locs cells slots Q (F0 m pc ls (.int v :: .ref (ad a) :: rest)) := r_putt S hK hG hP hS (k := 21) (T := TX10) inX10 rfl (by decide) tyX10 tyX10_ok nmX10 (by decide) rfl rfl rfl ha (sf_X10_21 ha) k_1127 hdg hf w
end
def f_X10_step (o : Nat) (p1 : Int32) (p2 : Int32) (M : Mem) : Option (Int32 × Mem) :=
  vv (grf G2 o 0) fun x1 =>
  vv (M o 22) fun x2 =>
  vv (M o 21) fun x3 =>
  st M x1 (x2 + (2 * x3)) 3510 p1 fun M =>
  vv (grf G2 o 0) fun x4 =>
  vv (M o 22) fun x5 =>
  vv (M o 21) fun x6 =>
  st M x4 ((x5 + (2 * x6)) + 1) 3510 p2 fun M =>
  vv (M o 21) fun x7 =>
  mm (up M o 21 (x7 + 1)) fun M =>
  some (0, M)
def rm_X10_step : Room := { frames := 0, cells := 0, slots := 0, locals := 0 }
set_option maxHeartbeats 4000000 in
set_option maxRecDepth 100000 in
theorem c_X10_step {l : Launch} {D : va_G} {K : Ks} {ad : Nat → Nat} {A : Nat → Prop} (hG : Gok G2 ad A) {o : Nat} {p1 : Int32} {p2 : Int32} (h0 : gcl G2 o = 10) {M : Mem} {r : Int32} {M' : Mem} (hf : f_X10_step o p1 p2 M = some (r, M')) : Cv l E2 D K G2 ad A yX10_step (ws_of yX10_step cX10_step 3 none) rm_X10_step [.ref (ad o), .int p1, .int p2] M M' := by
  have hst : Est A E2 := est2
  refine Cv.ofW (r := r) (by decide) (Nat.le_of_ble_eq_true rfl) ?_
  intro p e s m args below meth c Q H locs ls S hK hE hP hS hl hret
  have hx := S.1
  have hb := S.2.1
  have hown := S.2.2.2.1
  have ht := S.2.2.2.2
  have hl : lv_has ls 3 [(0, .ref (ad o)), (1, .int p1), (2, .int p2)] := hl
  unfold f_X10_step at hf
  refine lv_aload_n hx hb dX10_step_0 rfl (lv_at hl 0 rfl) ?_
  refine gf_X10_7 S hK hP h0 dX10_step_1 hf (fun x1 hx1 hf => ?_)
  refine lv_aload_n hx hb dX10_step_4 rfl (lv_at hl 0 rfl) ?_
  refine gf_X10_206 S hK hP h0 dX10_step_5 hf (fun x2 hf => ?_)
  refine lv_iconst (v := 2) hx hb dX10_step_8 (by decide) ?_
  refine lv_aload_n hx hb dX10_step_9 rfl (lv_at hl 0 rfl) ?_
  refine gf_X10_209 S hK hP h0 dX10_step_10 hf (fun x3 hf => ?_)
  refine lv_imul hx hb dX10_step_13 ?_
  refine lv_iadd hx hb dX10_step_14 ?_
  refine lv_iload_n hx hb dX10_step_15 rfl (lv_at hl 1 rfl) ?_
  refine r_iast S hK hG hP hS hx1 dX10_step_16 hf (fun M H locs hP hS hf => ?_)
  refine lv_aload_n hx hb dX10_step_17 rfl (lv_at hl 0 rfl) ?_
  refine gf_X10_7 S hK hP h0 dX10_step_18 hf (fun x4 hx4 hf => ?_)
  refine lv_aload_n hx hb dX10_step_21 rfl (lv_at hl 0 rfl) ?_
  refine gf_X10_206 S hK hP h0 dX10_step_22 hf (fun x5 hf => ?_)
  refine lv_iconst (v := 2) hx hb dX10_step_25 (by decide) ?_
  refine lv_aload_n hx hb dX10_step_26 rfl (lv_at hl 0 rfl) ?_
  refine gf_X10_209 S hK hP h0 dX10_step_27 hf (fun x6 hf => ?_)
  refine lv_imul hx hb dX10_step_30 ?_
  refine lv_iadd hx hb dX10_step_31 ?_
  refine lv_iconst (v := 1) hx hb dX10_step_32 (by decide) ?_
  refine lv_iadd hx hb dX10_step_33 ?_
  refine lv_iload_n hx hb dX10_step_34 rfl (lv_at hl 2 rfl) ?_
  refine r_iast S hK hG hP hS hx4 dX10_step_35 hf (fun M H locs hP hS hf => ?_)
  refine lv_aload_n hx hb dX10_step_36 rfl (lv_at hl 0 rfl) ?_
  refine lv_dup hx hb dX10_step_37 rfl ?_
  refine gf_X10_209 S hK hP h0 dX10_step_38 hf (fun x7 hf => ?_)
  refine lv_iconst (v := 1) hx hb dX10_step_41 (by decide) ?_
  refine lv_iadd hx hb dX10_step_42 ?_
  refine pf_X10_209 S hK hG hP hS h0 dX10_step_43 hf (fun M H locs hP hS hf => ?_)
  exact hret _ _ _ _ _ _ dX10_step_46 hP hS hf
theorem cwg_X10_212 {R : Room} {s : State} {args : Array Value} {rm : Room} (hrm : rm.cells = 0 ∧ rm.slots = 0) (ht : ∀ w ∈ Tw, w.before args s = true) (hR : rm.frames + 1 ≤ R.frames ∧ 8 + (2 + 11) + rm.locals ≤ R.locals) : CallW R s args RX10 RX10 212 yX10_both cX10_both 2 (some .boolean) (ws_of yX10_both cX10_both 2 (some .boolean)) rm 0 0 1 := cw_V 1 ht k_1387 k_1389 k_41 k_73 k_1390 (by decide +kernel) hrm.1 hrm.2 hR
theorem cw_X10_215 {R : Room} {s : State} {args : Array Value} (ht : ∀ w ∈ Tw, w.before args s = true) (hR : rm_X10_isSign.frames + 1 ≤ R.frames ∧ 8 + (2 + 11) + rm_X10_isSign.locals ≤ R.locals) : CallW R s args RX10 RX10 215 yX10_isSign cX10_isSign 2 (some .boolean) (ws_of yX10_isSign cX10_isSign 2 (some .boolean)) rm_X10_isSign 0 0 1 := cw_V 1 ht k_1414 k_1416 k_47 k_73 k_1417 (by decide +kernel) rfl rfl hR
theorem cw_X10_218 {R : Room} {s : State} {args : Array Value} (ht : ∀ w ∈ Tw, w.before args s = true) (hR : rm_X10_step.frames + 1 ≤ R.frames ∧ 8 + (3 + 11) + rm_X10_step.locals ≤ R.locals) : CallW R s args RX10 RX10 218 yX10_step cX10_step 3 none (ws_of yX10_step cX10_step 3 none) rm_X10_step 0 0 2 := cw_V 2 ht k_1407 k_1409 k_46 k_73 k_1410 (by decide +kernel) rfl rfl hR
def F_X10_either (g_X10_either : Nat → Int32 → Mem → Option (Int32 × Mem)) (g_X10_both : Nat → Int32 → Mem → Option (Int32 × Mem)) (g_X10_test : Nat → Int32 → Mem → Option (Int32 × Mem)) (g_X10_sum : Nat → Int32 → Mem → Option (Int32 × Mem)) (g_X10_term : Nat → Int32 → Mem → Option (Int32 × Mem)) (g_X10_part0 : Nat → Int32 → Mem → Option (Int32 × Mem)) (o : Nat) (p1 : Int32) (M : Mem) : Option (Int32 × Mem) :=
  bd (g_X10_both o p1 M) fun x1 M =>
  if x1 = 0 then
    some (0, M)
  else
    it0 (fun rc2 M =>
      bd (f_X10_isSign o 124 M) fun x3 M =>
      if x3 = 0 then
        some (1, M)
      else
        bd (f_X10_goesOn o M) fun _ M =>
        bd (g_X10_both o p1 M) fun x5 M =>
        if x5 = 0 then
          some (0, M)
        else
          bd (f_X10_step o 2 124 M) fun _ M =>
          rc2 M
    ) fuel M
theorem cwg_X10_222 {R : Room} {s : State} {args : Array Value} {rm : Room} (hrm : rm.cells = 0 ∧ rm.slots = 0) (ht : ∀ w ∈ Tw, w.before args s = true) (hR : rm.frames + 1 ≤ R.frames ∧ 8 + (3 + 11) + rm.locals ≤ R.locals) : CallW R s args RX10 RX10 222 yX10_test cX10_test 3 (some .boolean) (ws_of yX10_test cX10_test 3 (some .boolean)) rm 0 0 1 := cw_V 1 ht k_1391 k_1393 k_42 k_73 k_1394 (by decide +kernel) hrm.1 hrm.2 hR
def F_X10_both (g_X10_either : Nat → Int32 → Mem → Option (Int32 × Mem)) (g_X10_both : Nat → Int32 → Mem → Option (Int32 × Mem)) (g_X10_test : Nat → Int32 → Mem → Option (Int32 × Mem)) (g_X10_sum : Nat → Int32 → Mem → Option (Int32 × Mem)) (g_X10_term : Nat → Int32 → Mem → Option (Int32 × Mem)) (g_X10_part0 : Nat → Int32 → Mem → Option (Int32 × Mem)) (o : Nat) (p1 : Int32) (M : Mem) : Option (Int32 × Mem) :=
  bd (g_X10_test o p1 M) fun x1 M =>
  if x1 = 0 then
    some (0, M)
  else
    it0 (fun rc2 M =>
      bd (f_X10_isSign o 38 M) fun x3 M =>
      if x3 = 0 then
        some (1, M)
      else
        bd (f_X10_goesOn o M) fun _ M =>
        bd (g_X10_test o p1 M) fun x5 M =>
        if x5 = 0 then
          some (0, M)
        else
          bd (f_X10_step o 2 38 M) fun _ M =>
          rc2 M
    ) fuel M
theorem cwg_X10_225 {R : Room} {s : State} {args : Array Value} {rm : Room} (hrm : rm.cells = 0 ∧ rm.slots = 0) (ht : ∀ w ∈ Tw, w.before args s = true) (hR : rm.frames + 1 ≤ R.frames ∧ 8 + (3 + 11) + rm.locals ≤ R.locals) : CallW R s args RX10 RX10 225 yX10_sum cX10_sum 3 (some .boolean) (ws_of yX10_sum cX10_sum 3 (some .boolean)) rm 0 0 1 := cw_V 1 ht k_1395 k_1397 k_43 k_73 k_1398 (by decide +kernel) hrm.1 hrm.2 hR
def F_X10_test (g_X10_either : Nat → Int32 → Mem → Option (Int32 × Mem)) (g_X10_both : Nat → Int32 → Mem → Option (Int32 × Mem)) (g_X10_test : Nat → Int32 → Mem → Option (Int32 × Mem)) (g_X10_sum : Nat → Int32 → Mem → Option (Int32 × Mem)) (g_X10_term : Nat → Int32 → Mem → Option (Int32 × Mem)) (g_X10_part0 : Nat → Int32 → Mem → Option (Int32 × Mem)) (o : Nat) (p1 : Int32) (M : Mem) : Option (Int32 × Mem) :=
  bd (g_X10_sum o p1 M) fun x1 M =>
  if x1 = 0 then
    some (0, M)
  else
    bd (f_X10_isSign o 60 M) fun x2 M =>
    jn (fun (M : Mem) =>
      vv (M o 18) fun x4 =>
      bd (f_X10_goesOn o M) fun _ M =>
      bd (g_X10_sum o p1 M) fun x6 M =>
      if x6 = 0 then
        some (0, M)
      else
        bd (f_X10_step o 2 x4 M) fun _ M =>
        some (1, M)
    ) fun k3 =>
    if x2 = 0 then
      bd (f_X10_isSign o 61 M) fun x8 M =>
      if x8 = 0 then
        bd (f_X10_isSign o 62 M) fun x9 M =>
        if x9 = 0 then
          some (1, M)
        else
          k3 M
      else
        k3 M
    else
      k3 M
theorem cwg_X10_228 {R : Room} {s : State} {args : Array Value} {rm : Room} (hrm : rm.cells = 0 ∧ rm.slots = 0) (ht : ∀ w ∈ Tw, w.before args s = true) (hR : rm.frames + 1 ≤ R.frames ∧ 8 + (3 + 11) + rm.locals ≤ R.locals) : CallW R s args RX10 RX10 228 yX10_term cX10_term 3 (some .boolean) (ws_of yX10_term cX10_term 3 (some .boolean)) rm 0 0 1 := cw_V 1 ht k_1399 k_1401 k_44 k_73 k_1402 (by decide +kernel) hrm.1 hrm.2 hR
def F_X10_sum (g_X10_either : Nat → Int32 → Mem → Option (Int32 × Mem)) (g_X10_both : Nat → Int32 → Mem → Option (Int32 × Mem)) (g_X10_test : Nat → Int32 → Mem → Option (Int32 × Mem)) (g_X10_sum : Nat → Int32 → Mem → Option (Int32 × Mem)) (g_X10_term : Nat → Int32 → Mem → Option (Int32 × Mem)) (g_X10_part0 : Nat → Int32 → Mem → Option (Int32 × Mem)) (o : Nat) (p1 : Int32) (M : Mem) : Option (Int32 × Mem) :=
  bd (g_X10_term o p1 M) fun x1 M =>
  if x1 = 0 then
    some (0, M)
  else
    it0 (fun rc2 M =>
      bd (f_X10_isSign o 43 M) fun x3 M =>
      jn (fun (M : Mem) =>
        vv (M o 18) fun x5 =>
        bd (f_X10_goesOn o M) fun _ M =>
        bd (g_X10_term o p1 M) fun x7 M =>
        if x7 = 0 then
          some (0, M)
        else
          bd (f_X10_step o 2 x5 M) fun _ M =>
          rc2 M
      ) fun k4 =>
      if x3 = 0 then
        bd (f_X10_isSign o 45 M) fun x9 M =>
        if x9 = 0 then
          some (1, M)
        else
          k4 M
      else
        k4 M
    ) fuel M
theorem cwg_X10_231 {R : Room} {s : State} {args : Array Value} {rm : Room} (hrm : rm.cells = 0 ∧ rm.slots = 0) (ht : ∀ w ∈ Tw, w.before args s = true) (hR : rm.frames + 1 ≤ R.frames ∧ 8 + (2 + 11) + rm.locals ≤ R.locals) : CallW R s args RX10 RX10 231 yX10_part0 cX10_part0 2 (some .boolean) (ws_of yX10_part0 cX10_part0 2 (some .boolean)) rm 0 0 1 := cw_V 1 ht k_1403 k_1405 k_45 k_73 k_1406 (by decide +kernel) hrm.1 hrm.2 hR
def F_X10_term (g_X10_either : Nat → Int32 → Mem → Option (Int32 × Mem)) (g_X10_both : Nat → Int32 → Mem → Option (Int32 × Mem)) (g_X10_test : Nat → Int32 → Mem → Option (Int32 × Mem)) (g_X10_sum : Nat → Int32 → Mem → Option (Int32 × Mem)) (g_X10_term : Nat → Int32 → Mem → Option (Int32 × Mem)) (g_X10_part0 : Nat → Int32 → Mem → Option (Int32 × Mem)) (o : Nat) (p1 : Int32) (M : Mem) : Option (Int32 × Mem) :=
  bd (g_X10_part0 o p1 M) fun x1 M =>
  if x1 = 0 then
    some (0, M)
  else
    it0 (fun rc2 M =>
      bd (f_X10_isSign o 42 M) fun x3 M =>
      jn (fun (M : Mem) =>
        vv (M o 18) fun x5 =>
        bd (f_X10_goesOn o M) fun _ M =>
        bd (g_X10_part0 o p1 M) fun x7 M =>
        if x7 = 0 then
          some (0, M)
        else
          bd (f_X10_step o 2 x5 M) fun _ M =>
          rc2 M
      ) fun k4 =>
      if x3 = 0 then
        bd (f_X10_isSign o 47 M) fun x9 M =>
        if x9 = 0 then
          some (1, M)
        else
          k4 M
      else
        k4 M
    ) fuel M
theorem cw_X10_237 {R : Room} {s : State} {args : Array Value} (ht : ∀ w ∈ Tw, w.before args s = true) (hR : rm_X10_isName.frames + 1 ≤ R.frames ∧ 8 + (2 + 11) + rm_X10_isName.locals ≤ R.locals) : CallB R s args RX10 237 yX10_isName cX10_isName 2 (some .boolean) (ws_of yX10_isName cX10_isName 2 (some .boolean)) rm_X10_isName 0 0 2 ∧ (Cond.static yX10_isName).before args s = true := cw_S 2 ht k_1411 k_1412 k_73 k_1413 (by decide +kernel) rfl rfl hR
theorem cwg_X10_246 {R : Room} {s : State} {args : Array Value} {rm : Room} (hrm : rm.cells = 0 ∧ rm.slots = 0) (ht : ∀ w ∈ Tw, w.before args s = true) (hR : rm.frames + 1 ≤ R.frames ∧ 8 + (2 + 11) + rm.locals ≤ R.locals) : CallW R s args RX10 RX10 246 yX10_either cX10_either 2 (some .boolean) (ws_of yX10_either cX10_either 2 (some .boolean)) rm 0 0 1 := cw_V 1 ht k_1383 k_1385 k_40 k_73 k_1386 (by decide +kernel) hrm.1 hrm.2 hR
section
variable {p : Program} {l : Launch} {e : Env} {R : Room} {s : State} {m : MethodId} {args : Array Value} {below : List Frame} {meth : Method} {c : Code} {H : Heap} {locs : List Loc} {cells slots : Nat} {Q : State → Prop} {cc : ByteArray} {pc : Nat} {ls : Array Slot} {rest : List Value} {nL : Nat} {D : va_G} {K : Ks} {ad : Nat → Nat} {A : Nat → Prop} {M : Mem} {β : Type} {z : β}
theorem gf_X10_234 (S : CallFix p m c cc nL s args Tw RX10) (hK : va_K D classes (gty K) s) (hP : va_P D classes (gws K G2 ad M) H) {a : Nat} {kk : Int32 → Option β} (ha : gcl G2 a = 10) (hdg : decode cc pc = .ok (.getfield 234, 3)) (hf : vv (M a 23) kk = some z) (w : ∀ x, kk x = some z → W p l e R s m args below meth c H locs cells slots Q (F0 m (pc + 3) ls (.int x :: rest))) : W p l e R s m args below meth c H locs cells slots Q (F0 m pc ls (.ref (ad a) :: rest)) := r_geti S hK hP (T := TX10) inX10 rfl (by decide) (by decide) ha (sf_X10_23 ha) k_1129 hdg hf w
end
section
variable {p : Program} {l : Launch} {e : Env} {R : Room} {s : State} {m : MethodId} {args : Array Value} {below : List Frame} {meth : Method} {c : Code} {H : Heap} {locs : List Loc} {cells slots : Nat} {Q : State → Prop} {cc : ByteArray} {pc : Nat} {ls : Array Slot} {rest : List Value} {nL : Nat} {D : va_G} {K : Ks} {ad : Nat → Nat} {A : Nat → Prop} {M : Mem} {β : Type} {z : β}
theorem gf_X10_240 (S : CallFix p m c cc nL s args Tw RX10) (hK : va_K D classes (gty K) s) (hP : va_P D classes (gws K G2 ad M) H) {a : Nat} {kk : Int32 → Option β} (ha : gcl G2 a = 10) (hdg : decode cc pc = .ok (.getfield 240, 3)) (hf : vv (M a 20) kk = some z) (w : ∀ x, kk x = some z → W p l e R s m args below meth c H locs cells slots Q (F0 m (pc + 3) ls (.int x :: rest))) : W p l e R s m args below meth c H locs cells slots Q (F0 m pc ls (.ref (ad a) :: rest)) := r_geti S hK hP (T := TX10) inX10 rfl (by decide) (by decide) ha (sf_X10_20 ha) k_1126 hdg hf w
end
section
variable {p : Program} {l : Launch} {e : Env} {R : Room} {s : State} {m : MethodId} {args : Array Value} {below : List Frame} {meth : Method} {c : Code} {H : Heap} {locs : List Loc} {cells slots : Nat} {Q : State → Prop} {cc : ByteArray} {pc : Nat} {ls : Array Slot} {rest : List Value} {nL : Nat} {D : va_G} {K : Ks} {ad : Nat → Nat} {A : Nat → Prop} {M : Mem} {β : Type} {z : β}
theorem gf_X10_243 (S : CallFix p m c cc nL s args Tw RX10) (hK : va_K D classes (gty K) s) (hP : va_P D classes (gws K G2 ad M) H) {a : Nat} {kk : Int32 → Option β} (ha : gcl G2 a = 10) (hdg : decode cc pc = .ok (.getfield 243, 3)) (hf : vv (M a 19) kk = some z) (w : ∀ x, kk x = some z → W p l e R s m args below meth c H locs cells slots Q (F0 m (pc + 3) ls (.int x :: rest))) : W p l e R s m args below meth c H locs cells slots Q (F0 m pc ls (.ref (ad a) :: rest)) := r_geti S hK hP (T := TX10) inX10 rfl (by decide) (by decide) ha (sf_X10_19 ha) k_1125 hdg hf w
end
section
variable {p : Program} {l : Launch} {e : Env} {R : Room} {s : State} {m : MethodId} {args : Array Value} {below : List Frame} {meth : Method} {c : Code} {H : Heap} {locs : List Loc} {cells slots : Nat} {Q : State → Prop} {cc : ByteArray} {pc : Nat} {ls : Array Slot} {rest : List Value} {nL : Nat} {D : va_G} {K : Ks} {ad : Nat → Nat} {A : Nat → Prop} {M : Mem} {β : Type} {z : β}
theorem pf_X10_234 (S : CallFix p m c cc nL s args Tw RX10) (hK : va_K D classes (gty K) s) (hG : Gok G2 ad A) (hP : va_P D classes (gws K G2 ad M) H) (hS : va_S A s.heap H locs) {a : Nat} {v : Int32} {kk : Mem → Option β} (ha : gcl G2 a = 10) (hdg : decode cc pc = .ok (.putfield 234, 3)) (hf : mm (up M a 23 v) kk = some z) (w : ∀ M H locs, va_P D classes (gws K G2 ad M) H → va_S A s.heap H locs → kk M = some z → W p l e R s m args below meth c H locs cells slots Q (F0 m (pc + 3) ls rest)) : W p l e R s m args below meth c H locs cells slots Q (F0 m pc ls (.int v :: .ref (ad a) :: rest)) := r_putt S hK hG hP hS (k := 23) (T := TX10) inX10 rfl (by decide) tyX10 tyX10_ok nmX10 (by decide) rfl rfl rfl ha (sf_X10_23 ha) k_1129 hdg hf w
end
section
variable {p : Program} {l : Launch} {e : Env} {R : Room} {s : State} {m : MethodId} {args : Array Value} {below : List Frame} {meth : Method} {c : Code} {H : Heap} {locs : List Loc} {cells slots : Nat} {Q : State → Prop} {cc : ByteArray} {pc : Nat} {ls : Array Slot} {rest : List Value} {nL : Nat} {D : va_G} {K : Ks} {ad : Nat → Nat} {A : Nat → Prop} {M : Mem} {β : Type} {z : β}
theorem pf_X10_240 (S : CallFix p m c cc nL s args Tw RX10) (hK : va_K D classes (gty K) s) (hG : Gok G2 ad A) (hP : va_P D classes (gws K G2 ad M) H) (hS : va_S A s.heap H locs) {a : Nat} {v : Int32} {kk : Mem → Option β} (ha : gcl G2 a = 10) (hdg : decode cc pc = .ok (.putfield 240, 3)) (hf : mm (up M a 20 v) kk = some z) (w : ∀ M H locs, va_P D classes (gws K G2 ad M) H → va_S A s.heap H locs → kk M = some z → W p l e R s m args below meth c H locs cells slots Q (F0 m (pc + 3) ls rest)) : W p l e R s m args below meth c H locs cells slots Q (F0 m pc ls (.int v :: .ref (ad a) :: rest)) := r_putt S hK hG hP hS (k := 20) (T := TX10) inX10 rfl (by decide) tyX10 tyX10_ok nmX10 (by decide) rfl rfl rfl ha (sf_X10_20 ha) k_1126 hdg hf w
end
section
variable {p : Program} {l : Launch} {e : Env} {R : Room} {s : State} {m : MethodId} {args : Array Value} {below : List Frame} {meth : Method} {c : Code} {H : Heap} {locs : List Loc} {cells slots : Nat} {Q : State → Prop} {cc : ByteArray} {pc : Nat} {ls : Array Slot} {rest : List Value} {nL : Nat} {D : va_G} {K : Ks} {ad : Nat → Nat} {A : Nat → Prop} {M : Mem} {β : Type} {z : β}
theorem pf_X10_243 (S : CallFix p m c cc nL s args Tw RX10) (hK : va_K D classes (gty K) s) (hG : Gok G2 ad A) (hP : va_P D classes (gws K G2 ad M) H) (hS : va_S A s.heap H locs) {a : Nat} {v : Int32} {kk : Mem → Option β} (ha : gcl G2 a = 10) (hdg : decode cc pc = .ok (.putfield 243, 3)) (hf : mm (up M a 19 v) kk = some z) (w : ∀ M H locs, va_P D classes (gws K G2 ad M) H → va_S A s.heap H locs → kk M = some z → W p l e R s m args below meth c H locs cells slots Q (F0 m (pc + 3) ls rest)) : W p l e R s m args below meth c H locs cells slots Q (F0 m pc ls (.int v :: .ref (ad a) :: rest)) := r_putt S hK hG hP hS (k := 19) (T := TX10) inX10 rfl (by decide) tyX10 tyX10_ok nmX10 (by decide) rfl rfl rfl ha (sf_X10_19 ha) k_1125 hdg hf w
end
def F_X10_part0 (g_X10_either : Nat → Int32 → Mem → Option (Int32 × Mem)) (g_X10_both : Nat → Int32 → Mem → Option (Int32 × Mem)) (g_X10_test : Nat → Int32 → Mem → Option (Int32 × Mem)) (g_X10_sum : Nat → Int32 → Mem → Option (Int32 × Mem)) (g_X10_term : Nat → Int32 → Mem → Option (Int32 × Mem)) (g_X10_part0 : Nat → Int32 → Mem → Option (Int32 × Mem)) (o : Nat) (p1 : Int32) (M : Mem) : Option (Int32 × Mem) :=
  vv (M o 16) fun x1 =>
  if x1 = 2 then
    vv (M o 17) fun x27 =>
    bd (f_X10_step o 0 x27 M) fun _ M =>
    vv (M o 23) fun x29 =>
    mm (up M o 23 (x29 + 1)) fun M =>
    bd (f_X10_goesOn o M) fun _ M =>
    some (1, M)
  else
    vv (M o 16) fun x2 =>
    jn (fun (M : Mem) =>
      bd (f_X10_isSign o 33 M) fun x4 M =>
      jn (fun (M : Mem) =>
        bd (f_X10_isSign o 40 M) fun x6 M =>
        if x6 = 0 then
          some (0, M)
        else
          vv (M o 19) fun x7 =>
          if x7 = 8 then
            some (0, M)
          else
            vv (M o 19) fun x8 =>
            mm (up M o 19 (x8 + 1)) fun M =>
            bd (f_X10_goesOn o M) fun _ M =>
            bd (g_X10_either o p1 M) fun x10 M =>
            if x10 = 0 then
              some (0, M)
            else
              bd (f_X10_isSign o 41 M) fun x11 M =>
              if x11 = 0 then
                some (0, M)
              else
                vv (M o 19) fun x12 =>
                mm (up M o 19 (x12 - 1)) fun M =>
                bd (f_X10_goesOn o M) fun _ M =>
                some (1, M)
      ) fun k5 =>
      if x4 = 0 then
        k5 M
      else
        vv (M o 20) fun x14 =>
        if x14 < 8 then
          vv (M o 20) fun x15 =>
          mm (up M o 20 (x15 + 1)) fun M =>
          bd (f_X10_goesOn o M) fun _ M =>
          bd (g_X10_part0 o p1 M) fun x17 M =>
          if x17 = 0 then
            some (0, M)
          else
            vv (M o 20) fun x18 =>
            mm (up M o 20 (x18 - 1)) fun M =>
            bd (f_X10_step o 2 33 M) fun _ M =>
            some (1, M)
        else
          k5 M
    ) fun k3 =>
    if x2 = 1 then
      vv (M o 18) fun x20 =>
      if x20 = 0 then
        k3 M
      else
        vv (M o 18) fun x21 =>
        bd (f_X10_isName p1 x21 M) fun x22 M =>
        if x22 = 0 then
          k3 M
        else
          vv (M o 18) fun x23 =>
          bd (f_X10_step o 1 x23 M) fun _ M =>
          vv (M o 23) fun x25 =>
          mm (up M o 23 (x25 + 1)) fun M =>
          bd (f_X10_goesOn o M) fun _ M =>
          some (1, M)
    else
      k3 M
set_option maxHeartbeats 4000000 in
set_option maxRecDepth 100000 in
theorem co_X10_either {l : Launch} {D : va_G} {K : Ks} {ad : Nat → Nat} {A : Nat → Prop} (hG : Gok G2 ad A) {d : Nat} {g_X10_either : Nat → Int32 → Mem → Option (Int32 × Mem)} {g_X10_both : Nat → Int32 → Mem → Option (Int32 × Mem)} {g_X10_test : Nat → Int32 → Mem → Option (Int32 × Mem)} {g_X10_sum : Nat → Int32 → Mem → Option (Int32 × Mem)} {g_X10_term : Nat → Int32 → Mem → Option (Int32 × Mem)} {g_X10_part0 : Nat → Int32 → Mem → Option (Int32 × Mem)} (hg_X10_either : ∀ (o : Nat) (p1 : Int32), gcl G2 o = 10 → ∀ {M : Mem} {r : Int32} {M' : Mem}, g_X10_either o p1 M = some (r, M') → Ct l E2 D K G2 ad A yX10_either (ws_of yX10_either cX10_either 2 (some .boolean)) (rmD 12 400 d) .boolean [.ref (ad o), .int p1] M r M') (hg_X10_both : ∀ (o : Nat) (p1 : Int32), gcl G2 o = 10 → ∀ {M : Mem} {r : Int32} {M' : Mem}, g_X10_both o p1 M = some (r, M') → Ct l E2 D K G2 ad A yX10_both (ws_of yX10_both cX10_both 2 (some .boolean)) (rmD 12 400 d) .boolean [.ref (ad o), .int p1] M r M') (hg_X10_test : ∀ (o : Nat) (p1 : Int32), gcl G2 o = 10 → ∀ {M : Mem} {r : Int32} {M' : Mem}, g_X10_test o p1 M = some (r, M') → Ct l E2 D K G2 ad A yX10_test (ws_of yX10_test cX10_test 3 (some .boolean)) (rmD 12 400 d) .boolean [.ref (ad o), .int p1] M r M') (hg_X10_sum : ∀ (o : Nat) (p1 : Int32), gcl G2 o = 10 → ∀ {M : Mem} {r : Int32} {M' : Mem}, g_X10_sum o p1 M = some (r, M') → Ct l E2 D K G2 ad A yX10_sum (ws_of yX10_sum cX10_sum 3 (some .boolean)) (rmD 12 400 d) .boolean [.ref (ad o), .int p1] M r M') (hg_X10_term : ∀ (o : Nat) (p1 : Int32), gcl G2 o = 10 → ∀ {M : Mem} {r : Int32} {M' : Mem}, g_X10_term o p1 M = some (r, M') → Ct l E2 D K G2 ad A yX10_term (ws_of yX10_term cX10_term 3 (some .boolean)) (rmD 12 400 d) .boolean [.ref (ad o), .int p1] M r M') (hg_X10_part0 : ∀ (o : Nat) (p1 : Int32), gcl G2 o = 10 → ∀ {M : Mem} {r : Int32} {M' : Mem}, g_X10_part0 o p1 M = some (r, M') → Ct l E2 D K G2 ad A yX10_part0 (ws_of yX10_part0 cX10_part0 2 (some .boolean)) (rmD 12 400 d) .boolean [.ref (ad o), .int p1] M r M') {o : Nat} {p1 : Int32} (h0 : gcl G2 o = 10) {M : Mem} {r : Int32} {M' : Mem} (hf : F_X10_either g_X10_either g_X10_both g_X10_test g_X10_sum g_X10_term g_X10_part0 o p1 M = some (r, M')) : Ct l E2 D K G2 ad A yX10_either (ws_of yX10_either cX10_either 2 (some .boolean)) (rmD 12 400 (d + 1)) .boolean [.ref (ad o), .int p1] M r M' := by
  have hst : Est A E2 := est2
  refine Ct.ofW (by decide) (Nat.le_of_ble_eq_true rfl) ?_
  intro p e s m args below meth c Q H locs ls S hK hE hP hS hl hret
  have hx := S.1
  have hb := S.2.1
  have hown := S.2.2.2.1
  have ht := S.2.2.2.2
  have hl : lv_has ls 2 [(0, .ref (ad o)), (1, .int p1)] := hl
  unfold F_X10_either at hf
  refine lv_aload_n hx hb dX10_either_0 rfl (lv_at hl 0 rfl) ?_
  refine lv_iload_n hx hb dX10_either_1 rfl (lv_at hl 1 rfl) ?_
  refine r_callV (As := [.int p1]) (rest := []) S hK hE hst hP hS h0 (by decide) rfl (cwg_X10_212 ⟨rfl, rfl⟩ ht (rdg (by decide))) rfl hl.1 rfl (Nat.le_of_ble_eq_true rfl) dX10_either_2 z2 (fun _ _ h => hg_X10_both _ _ h0 h) hf (fun x1 M H locs hP hS bx1 hf => ?_)
  refine r_if_ne (tgt := 10) S dX10_either_5 (by decide) hf (fun hf => ?_) (fun hf => ?_)
  · obtain ⟨F2, hF2, hf⟩ := it0_g hf
    have L2 : ∀ (n : Nat) (M : Mem) (H : Heap) (locs : List Loc) (ls : Array Slot), lv_has ls 2 [(0, .ref (ad o)), (1, .int p1)] → va_P D classes (gws K G2 ad M) H → va_S A s.heap H locs → it0 F2 n M = some (r, M') → W p l e (rmD 12 400 (d + 1)) s m args below meth c H locs 0 0 Q (F0 m 10 ls []) := by
      intro n
      induction n with
      | zero => intro M H locs ls hl hP hS hf; exact nomatch hf
      | succ n ih2 =>
        intro M H locs ls hl hP hS hf
        obtain ⟨rc2, hrc2, hf⟩ := it0_w hf
        rw [← hrc2] at ih2
        rw [hF2] at hf
        refine lv_aload_n hx hb dX10_either_10 rfl (lv_at hl 0 rfl) ?_
        refine lv_bipush (v := 124) hx hb dX10_either_11 (by decide) ?_
        refine r_callV (As := [.int 124]) (rest := []) S hK hE hst hP hS h0 (by decide) rfl (cw_X10_215 ht ⟨rdf (Nat.le_of_ble_eq_true rfl), rdl (Nat.le_of_ble_eq_true rfl)⟩) rfl hl.1 rfl (Nat.le_of_ble_eq_true rfl) dX10_either_13 z2 (fun _ _ h => c_X10_isSign hG  h0 h) hf (fun x3 M H locs hP hS bx3 hf => ?_)
        refine r_if_eq (tgt := 43) S dX10_either_16 (by decide) hf (fun hf => ?_) (fun hf => ?_)
        · refine lv_iconst (v := 1) hx hb dX10_either_43 (by decide) ?_
          exact hret _ _ _ _ _ _ dX10_either_44 hP hS rfl hf
        · refine lv_aload_n hx hb dX10_either_19 rfl (lv_at hl 0 rfl) ?_
          refine r_callVv (As := []) (rest := []) S hK hE hst hP hS h0 (by decide) rfl (cw_X10_203 ht ⟨rdf (Nat.le_of_ble_eq_true rfl), rdl (Nat.le_of_ble_eq_true rfl)⟩) rfl hl.1 rfl (Nat.le_of_ble_eq_true rfl) dX10_either_20 z2 (fun _ _ h => c_X10_goesOn hG  h0 h) hf (fun x4 M H locs hP hS hf => ?_)
          refine lv_aload_n hx hb dX10_either_23 rfl (lv_at hl 0 rfl) ?_
          refine lv_iload_n hx hb dX10_either_24 rfl (lv_at hl 1 rfl) ?_
          refine r_callV (As := [.int p1]) (rest := []) S hK hE hst hP hS h0 (by decide) rfl (cwg_X10_212 ⟨rfl, rfl⟩ ht (rdg (by decide))) rfl hl.1 rfl (Nat.le_of_ble_eq_true rfl) dX10_either_25 z2 (fun _ _ h => hg_X10_both _ _ h0 h) hf (fun x5 M H locs hP hS bx5 hf => ?_)
          refine r_if_ne (tgt := 33) S dX10_either_28 (by decide) hf (fun hf => ?_) (fun hf => ?_)
          · refine lv_aload_n hx hb dX10_either_33 rfl (lv_at hl 0 rfl) ?_
            refine lv_iconst (v := 2) hx hb dX10_either_34 (by decide) ?_
            refine lv_bipush (v := 124) hx hb dX10_either_35 (by decide) ?_
            refine r_callVv (As := [.int 2, .int 124]) (rest := []) S hK hE hst hP hS h0 (by decide) rfl (cw_X10_218 ht ⟨rdf (Nat.le_of_ble_eq_true rfl), rdl (Nat.le_of_ble_eq_true rfl)⟩) rfl hl.1 rfl (Nat.le_of_ble_eq_true rfl) dX10_either_37 z2 (fun _ _ h => c_X10_step hG  h0 h) hf (fun x6 M H locs hP hS hf => ?_)
            refine lv_goto (tgt := 10) hx hb dX10_either_40 (by decide) ?_
            exact ih2 M H locs ls (lv_sub hl [0, 1] rfl) hP hS hf
          · refine lv_iconst (v := 0) hx hb dX10_either_31 (by decide) ?_
            exact hret _ _ _ _ _ _ dX10_either_32 hP hS rfl hf
    exact L2 _ M H locs ls (lv_sub hl [0, 1] rfl) hP hS hf
  · refine lv_iconst (v := 0) hx hb dX10_either_8 (by decide) ?_
    exact hret _ _ _ _ _ _ dX10_either_9 hP hS rfl hf
set_option maxHeartbeats 4000000 in
set_option maxRecDepth 100000 in
theorem co_X10_both {l : Launch} {D : va_G} {K : Ks} {ad : Nat → Nat} {A : Nat → Prop} (hG : Gok G2 ad A) {d : Nat} {g_X10_either : Nat → Int32 → Mem → Option (Int32 × Mem)} {g_X10_both : Nat → Int32 → Mem → Option (Int32 × Mem)} {g_X10_test : Nat → Int32 → Mem → Option (Int32 × Mem)} {g_X10_sum : Nat → Int32 → Mem → Option (Int32 × Mem)} {g_X10_term : Nat → Int32 → Mem → Option (Int32 × Mem)} {g_X10_part0 : Nat → Int32 → Mem → Option (Int32 × Mem)} (hg_X10_either : ∀ (o : Nat) (p1 : Int32), gcl G2 o = 10 → ∀ {M : Mem} {r : Int32} {M' : Mem}, g_X10_either o p1 M = some (r, M') → Ct l E2 D K G2 ad A yX10_either (ws_of yX10_either cX10_either 2 (some .boolean)) (rmD 12 400 d) .boolean [.ref (ad o), .int p1] M r M') (hg_X10_both : ∀ (o : Nat) (p1 : Int32), gcl G2 o = 10 → ∀ {M : Mem} {r : Int32} {M' : Mem}, g_X10_both o p1 M = some (r, M') → Ct l E2 D K G2 ad A yX10_both (ws_of yX10_both cX10_both 2 (some .boolean)) (rmD 12 400 d) .boolean [.ref (ad o), .int p1] M r M') (hg_X10_test : ∀ (o : Nat) (p1 : Int32), gcl G2 o = 10 → ∀ {M : Mem} {r : Int32} {M' : Mem}, g_X10_test o p1 M = some (r, M') → Ct l E2 D K G2 ad A yX10_test (ws_of yX10_test cX10_test 3 (some .boolean)) (rmD 12 400 d) .boolean [.ref (ad o), .int p1] M r M') (hg_X10_sum : ∀ (o : Nat) (p1 : Int32), gcl G2 o = 10 → ∀ {M : Mem} {r : Int32} {M' : Mem}, g_X10_sum o p1 M = some (r, M') → Ct l E2 D K G2 ad A yX10_sum (ws_of yX10_sum cX10_sum 3 (some .boolean)) (rmD 12 400 d) .boolean [.ref (ad o), .int p1] M r M') (hg_X10_term : ∀ (o : Nat) (p1 : Int32), gcl G2 o = 10 → ∀ {M : Mem} {r : Int32} {M' : Mem}, g_X10_term o p1 M = some (r, M') → Ct l E2 D K G2 ad A yX10_term (ws_of yX10_term cX10_term 3 (some .boolean)) (rmD 12 400 d) .boolean [.ref (ad o), .int p1] M r M') (hg_X10_part0 : ∀ (o : Nat) (p1 : Int32), gcl G2 o = 10 → ∀ {M : Mem} {r : Int32} {M' : Mem}, g_X10_part0 o p1 M = some (r, M') → Ct l E2 D K G2 ad A yX10_part0 (ws_of yX10_part0 cX10_part0 2 (some .boolean)) (rmD 12 400 d) .boolean [.ref (ad o), .int p1] M r M') {o : Nat} {p1 : Int32} (h0 : gcl G2 o = 10) {M : Mem} {r : Int32} {M' : Mem} (hf : F_X10_both g_X10_either g_X10_both g_X10_test g_X10_sum g_X10_term g_X10_part0 o p1 M = some (r, M')) : Ct l E2 D K G2 ad A yX10_both (ws_of yX10_both cX10_both 2 (some .boolean)) (rmD 12 400 (d + 1)) .boolean [.ref (ad o), .int p1] M r M' := by
  have hst : Est A E2 := est2
  refine Ct.ofW (by decide) (Nat.le_of_ble_eq_true rfl) ?_
  intro p e s m args below meth c Q H locs ls S hK hE hP hS hl hret
  have hx := S.1
  have hb := S.2.1
  have hown := S.2.2.2.1
  have ht := S.2.2.2.2
  have hl : lv_has ls 2 [(0, .ref (ad o)), (1, .int p1)] := hl
  unfold F_X10_both at hf
  refine lv_aload_n hx hb dX10_both_0 rfl (lv_at hl 0 rfl) ?_
  refine lv_iload_n hx hb dX10_both_1 rfl (lv_at hl 1 rfl) ?_
  refine r_callV (As := [.int p1]) (rest := []) S hK hE hst hP hS h0 (by decide) rfl (cwg_X10_222 ⟨rfl, rfl⟩ ht (rdg (by decide))) rfl hl.1 rfl (Nat.le_of_ble_eq_true rfl) dX10_both_2 z2 (fun _ _ h => hg_X10_test _ _ h0 h) hf (fun x1 M H locs hP hS bx1 hf => ?_)
  refine r_if_ne (tgt := 10) S dX10_both_5 (by decide) hf (fun hf => ?_) (fun hf => ?_)
  · obtain ⟨F2, hF2, hf⟩ := it0_g hf
    have L2 : ∀ (n : Nat) (M : Mem) (H : Heap) (locs : List Loc) (ls : Array Slot), lv_has ls 2 [(0, .ref (ad o)), (1, .int p1)] → va_P D classes (gws K G2 ad M) H → va_S A s.heap H locs → it0 F2 n M = some (r, M') → W p l e (rmD 12 400 (d + 1)) s m args below meth c H locs 0 0 Q (F0 m 10 ls []) := by
      intro n
      induction n with
      | zero => intro M H locs ls hl hP hS hf; exact nomatch hf
      | succ n ih2 =>
        intro M H locs ls hl hP hS hf
        obtain ⟨rc2, hrc2, hf⟩ := it0_w hf
        rw [← hrc2] at ih2
        rw [hF2] at hf
        refine lv_aload_n hx hb dX10_both_10 rfl (lv_at hl 0 rfl) ?_
        refine lv_bipush (v := 38) hx hb dX10_both_11 (by decide) ?_
        refine r_callV (As := [.int 38]) (rest := []) S hK hE hst hP hS h0 (by decide) rfl (cw_X10_215 ht ⟨rdf (Nat.le_of_ble_eq_true rfl), rdl (Nat.le_of_ble_eq_true rfl)⟩) rfl hl.1 rfl (Nat.le_of_ble_eq_true rfl) dX10_both_13 z2 (fun _ _ h => c_X10_isSign hG  h0 h) hf (fun x3 M H locs hP hS bx3 hf => ?_)
        refine r_if_eq (tgt := 43) S dX10_both_16 (by decide) hf (fun hf => ?_) (fun hf => ?_)
        · refine lv_iconst (v := 1) hx hb dX10_both_43 (by decide) ?_
          exact hret _ _ _ _ _ _ dX10_both_44 hP hS rfl hf
        · refine lv_aload_n hx hb dX10_both_19 rfl (lv_at hl 0 rfl) ?_
          refine r_callVv (As := []) (rest := []) S hK hE hst hP hS h0 (by decide) rfl (cw_X10_203 ht ⟨rdf (Nat.le_of_ble_eq_true rfl), rdl (Nat.le_of_ble_eq_true rfl)⟩) rfl hl.1 rfl (Nat.le_of_ble_eq_true rfl) dX10_both_20 z2 (fun _ _ h => c_X10_goesOn hG  h0 h) hf (fun x4 M H locs hP hS hf => ?_)
          refine lv_aload_n hx hb dX10_both_23 rfl (lv_at hl 0 rfl) ?_
          refine lv_iload_n hx hb dX10_both_24 rfl (lv_at hl 1 rfl) ?_
          refine r_callV (As := [.int p1]) (rest := []) S hK hE hst hP hS h0 (by decide) rfl (cwg_X10_222 ⟨rfl, rfl⟩ ht (rdg (by decide))) rfl hl.1 rfl (Nat.le_of_ble_eq_true rfl) dX10_both_25 z2 (fun _ _ h => hg_X10_test _ _ h0 h) hf (fun x5 M H locs hP hS bx5 hf => ?_)
          refine r_if_ne (tgt := 33) S dX10_both_28 (by decide) hf (fun hf => ?_) (fun hf => ?_)
          · refine lv_aload_n hx hb dX10_both_33 rfl (lv_at hl 0 rfl) ?_
            refine lv_iconst (v := 2) hx hb dX10_both_34 (by decide) ?_
            refine lv_bipush (v := 38) hx hb dX10_both_35 (by decide) ?_
            refine r_callVv (As := [.int 2, .int 38]) (rest := []) S hK hE hst hP hS h0 (by decide) rfl (cw_X10_218 ht ⟨rdf (Nat.le_of_ble_eq_true rfl), rdl (Nat.le_of_ble_eq_true rfl)⟩) rfl hl.1 rfl (Nat.le_of_ble_eq_true rfl) dX10_both_37 z2 (fun _ _ h => c_X10_step hG  h0 h) hf (fun x6 M H locs hP hS hf => ?_)
            refine lv_goto (tgt := 10) hx hb dX10_both_40 (by decide) ?_
            exact ih2 M H locs ls (lv_sub hl [0, 1] rfl) hP hS hf
          · refine lv_iconst (v := 0) hx hb dX10_both_31 (by decide) ?_
            exact hret _ _ _ _ _ _ dX10_both_32 hP hS rfl hf
    exact L2 _ M H locs ls (lv_sub hl [0, 1] rfl) hP hS hf
  · refine lv_iconst (v := 0) hx hb dX10_both_8 (by decide) ?_
    exact hret _ _ _ _ _ _ dX10_both_9 hP hS rfl hf
set_option maxHeartbeats 4000000 in
set_option maxRecDepth 100000 in
theorem co_X10_test {l : Launch} {D : va_G} {K : Ks} {ad : Nat → Nat} {A : Nat → Prop} (hG : Gok G2 ad A) {d : Nat} {g_X10_either : Nat → Int32 → Mem → Option (Int32 × Mem)} {g_X10_both : Nat → Int32 → Mem → Option (Int32 × Mem)} {g_X10_test : Nat → Int32 → Mem → Option (Int32 × Mem)} {g_X10_sum : Nat → Int32 → Mem → Option (Int32 × Mem)} {g_X10_term : Nat → Int32 → Mem → Option (Int32 × Mem)} {g_X10_part0 : Nat → Int32 → Mem → Option (Int32 × Mem)} (hg_X10_either : ∀ (o : Nat) (p1 : Int32), gcl G2 o = 10 → ∀ {M : Mem} {r : Int32} {M' : Mem}, g_X10_either o p1 M = some (r, M') → Ct l E2 D K G2 ad A yX10_either (ws_of yX10_either cX10_either 2 (some .boolean)) (rmD 12 400 d) .boolean [.ref (ad o), .int p1] M r M') (hg_X10_both : ∀ (o : Nat) (p1 : Int32), gcl G2 o = 10 → ∀ {M : Mem} {r : Int32} {M' : Mem}, g_X10_both o p1 M = some (r, M') → Ct l E2 D K G2 ad A yX10_both (ws_of yX10_both cX10_both 2 (some .boolean)) (rmD 12 400 d) .boolean [.ref (ad o), .int p1] M r M') (hg_X10_test : ∀ (o : Nat) (p1 : Int32), gcl G2 o = 10 → ∀ {M : Mem} {r : Int32} {M' : Mem}, g_X10_test o p1 M = some (r, M') → Ct l E2 D K G2 ad A yX10_test (ws_of yX10_test cX10_test 3 (some .boolean)) (rmD 12 400 d) .boolean [.ref (ad o), .int p1] M r M') (hg_X10_sum : ∀ (o : Nat) (p1 : Int32), gcl G2 o = 10 → ∀ {M : Mem} {r : Int32} {M' : Mem}, g_X10_sum o p1 M = some (r, M') → Ct l E2 D K G2 ad A yX10_sum (ws_of yX10_sum cX10_sum 3 (some .boolean)) (rmD 12 400 d) .boolean [.ref (ad o), .int p1] M r M') (hg_X10_term : ∀ (o : Nat) (p1 : Int32), gcl G2 o = 10 → ∀ {M : Mem} {r : Int32} {M' : Mem}, g_X10_term o p1 M = some (r, M') → Ct l E2 D K G2 ad A yX10_term (ws_of yX10_term cX10_term 3 (some .boolean)) (rmD 12 400 d) .boolean [.ref (ad o), .int p1] M r M') (hg_X10_part0 : ∀ (o : Nat) (p1 : Int32), gcl G2 o = 10 → ∀ {M : Mem} {r : Int32} {M' : Mem}, g_X10_part0 o p1 M = some (r, M') → Ct l E2 D K G2 ad A yX10_part0 (ws_of yX10_part0 cX10_part0 2 (some .boolean)) (rmD 12 400 d) .boolean [.ref (ad o), .int p1] M r M') {o : Nat} {p1 : Int32} (h0 : gcl G2 o = 10) {M : Mem} {r : Int32} {M' : Mem} (hf : F_X10_test g_X10_either g_X10_both g_X10_test g_X10_sum g_X10_term g_X10_part0 o p1 M = some (r, M')) : Ct l E2 D K G2 ad A yX10_test (ws_of yX10_test cX10_test 3 (some .boolean)) (rmD 12 400 (d + 1)) .boolean [.ref (ad o), .int p1] M r M' := by
  have hst : Est A E2 := est2
  refine Ct.ofW (by decide) (Nat.le_of_ble_eq_true rfl) ?_
  intro p e s m args below meth c Q H locs ls S hK hE hP hS hl hret
  have hx := S.1
  have hb := S.2.1
  have hown := S.2.2.2.1
  have ht := S.2.2.2.2
  have hl : lv_has ls 3 [(0, .ref (ad o)), (1, .int p1)] := hl
  unfold F_X10_test at hf
  refine lv_aload_n hx hb dX10_test_0 rfl (lv_at hl 0 rfl) ?_
  refine lv_iload_n hx hb dX10_test_1 rfl (lv_at hl 1 rfl) ?_
  refine r_callV (As := [.int p1]) (rest := []) S hK hE hst hP hS h0 (by decide) rfl (cwg_X10_225 ⟨rfl, rfl⟩ ht (rdg (by decide))) rfl hl.1 rfl (Nat.le_of_ble_eq_true rfl) dX10_test_2 z2 (fun _ _ h => hg_X10_sum _ _ h0 h) hf (fun x1 M H locs hP hS bx1 hf => ?_)
  refine r_if_ne (tgt := 10) S dX10_test_5 (by decide) hf (fun hf => ?_) (fun hf => ?_)
  · refine lv_aload_n hx hb dX10_test_10 rfl (lv_at hl 0 rfl) ?_
    refine lv_bipush (v := 60) hx hb dX10_test_11 (by decide) ?_
    refine r_callV (As := [.int 60]) (rest := []) S hK hE hst hP hS h0 (by decide) rfl (cw_X10_215 ht ⟨rdf (Nat.le_of_ble_eq_true rfl), rdl (Nat.le_of_ble_eq_true rfl)⟩) rfl hl.1 rfl (Nat.le_of_ble_eq_true rfl) dX10_test_13 z2 (fun _ _ h => c_X10_isSign hG  h0 h) hf (fun x2 M H locs hP hS bx2 hf => ?_)
    obtain ⟨k3, hk3, hf⟩ := jn_w hf
    have J3 : ∀ (M : Mem) (H : Heap) (locs : List Loc) (ls : Array Slot), lv_has ls 3 [(0, .ref (ad o)), (1, .int p1)] → va_P D classes (gws K G2 ad M) H → va_S A s.heap H locs → k3 M = some (r, M') → W p l e (rmD 12 400 (d + 1)) s m args below meth c H locs 0 0 Q (F0 m 37 ls []) := by
      intro M H locs ls hl hP hS hf
      rw [hk3] at hf
      refine lv_aload_n hx hb dX10_test_37 rfl (lv_at hl 0 rfl) ?_
      refine gf_X10_182 S hK hP h0 dX10_test_38 hf (fun x4 hf => ?_)
      refine lv_istore_n (lv' := [(2, .int x4), (0, .ref (ad o)), (1, .int p1)]) hx hb dX10_test_41 rfl hl (by decide) rfl (fun ls hl => ?_)
      refine lv_aload_n hx hb dX10_test_42 rfl (lv_at hl 1 rfl) ?_
      refine r_callVv (As := []) (rest := []) S hK hE hst hP hS h0 (by decide) rfl (cw_X10_203 ht ⟨rdf (Nat.le_of_ble_eq_true rfl), rdl (Nat.le_of_ble_eq_true rfl)⟩) rfl hl.1 rfl (Nat.le_of_ble_eq_true rfl) dX10_test_43 z2 (fun _ _ h => c_X10_goesOn hG  h0 h) hf (fun x5 M H locs hP hS hf => ?_)
      refine lv_aload_n hx hb dX10_test_46 rfl (lv_at hl 1 rfl) ?_
      refine lv_iload_n hx hb dX10_test_47 rfl (lv_at hl 2 rfl) ?_
      refine r_callV (As := [.int p1]) (rest := []) S hK hE hst hP hS h0 (by decide) rfl (cwg_X10_225 ⟨rfl, rfl⟩ ht (rdg (by decide))) rfl hl.1 rfl (Nat.le_of_ble_eq_true rfl) dX10_test_48 z2 (fun _ _ h => hg_X10_sum _ _ h0 h) hf (fun x6 M H locs hP hS bx6 hf => ?_)
      refine r_if_ne (tgt := 56) S dX10_test_51 (by decide) hf (fun hf => ?_) (fun hf => ?_)
      · refine lv_aload_n hx hb dX10_test_56 rfl (lv_at hl 1 rfl) ?_
        refine lv_iconst (v := 2) hx hb dX10_test_57 (by decide) ?_
        refine lv_iload_n hx hb dX10_test_58 rfl (lv_at hl 0 rfl) ?_
        refine r_callVv (As := [.int 2, .int x4]) (rest := []) S hK hE hst hP hS h0 (by decide) rfl (cw_X10_218 ht ⟨rdf (Nat.le_of_ble_eq_true rfl), rdl (Nat.le_of_ble_eq_true rfl)⟩) rfl hl.1 rfl (Nat.le_of_ble_eq_true rfl) dX10_test_59 z2 (fun _ _ h => c_X10_step hG  h0 h) hf (fun x7 M H locs hP hS hf => ?_)
        refine lv_iconst (v := 1) hx hb dX10_test_62 (by decide) ?_
        exact hret _ _ _ _ _ _ dX10_test_63 hP hS rfl hf
      · refine lv_iconst (v := 0) hx hb dX10_test_54 (by decide) ?_
        exact hret _ _ _ _ _ _ dX10_test_55 hP hS rfl hf
    refine r_if_ne (tgt := 37) S dX10_test_16 (by decide) hf (fun hf => ?_) (fun hf => ?_)
    · exact J3 M H locs ls (lv_sub hl [0, 1] rfl) hP hS hf
    · refine lv_aload_n hx hb dX10_test_19 rfl (lv_at hl 0 rfl) ?_
      refine lv_bipush (v := 61) hx hb dX10_test_20 (by decide) ?_
      refine r_callV (As := [.int 61]) (rest := []) S hK hE hst hP hS h0 (by decide) rfl (cw_X10_215 ht ⟨rdf (Nat.le_of_ble_eq_true rfl), rdl (Nat.le_of_ble_eq_true rfl)⟩) rfl hl.1 rfl (Nat.le_of_ble_eq_true rfl) dX10_test_22 z2 (fun _ _ h => c_X10_isSign hG  h0 h) hf (fun x8 M H locs hP hS bx8 hf => ?_)
      refine r_if_ne (tgt := 37) S dX10_test_25 (by decide) hf (fun hf => ?_) (fun hf => ?_)
      · exact J3 M H locs ls (lv_sub hl [0, 1] rfl) hP hS hf
      · refine lv_aload_n hx hb dX10_test_28 rfl (lv_at hl 0 rfl) ?_
        refine lv_bipush (v := 62) hx hb dX10_test_29 (by decide) ?_
        refine r_callV (As := [.int 62]) (rest := []) S hK hE hst hP hS h0 (by decide) rfl (cw_X10_215 ht ⟨rdf (Nat.le_of_ble_eq_true rfl), rdl (Nat.le_of_ble_eq_true rfl)⟩) rfl hl.1 rfl (Nat.le_of_ble_eq_true rfl) dX10_test_31 z2 (fun _ _ h => c_X10_isSign hG  h0 h) hf (fun x9 M H locs hP hS bx9 hf => ?_)
        refine r_if_eq (tgt := 62) S dX10_test_34 (by decide) hf (fun hf => ?_) (fun hf => ?_)
        · refine lv_iconst (v := 1) hx hb dX10_test_62 (by decide) ?_
          exact hret _ _ _ _ _ _ dX10_test_63 hP hS rfl hf
        · exact J3 M H locs ls (lv_sub hl [0, 1] rfl) hP hS hf
  · refine lv_iconst (v := 0) hx hb dX10_test_8 (by decide) ?_
    exact hret _ _ _ _ _ _ dX10_test_9 hP hS rfl hf
set_option maxHeartbeats 4000000 in
set_option maxRecDepth 100000 in
theorem co_X10_sum {l : Launch} {D : va_G} {K : Ks} {ad : Nat → Nat} {A : Nat → Prop} (hG : Gok G2 ad A) {d : Nat} {g_X10_either : Nat → Int32 → Mem → Option (Int32 × Mem)} {g_X10_both : Nat → Int32 → Mem → Option (Int32 × Mem)} {g_X10_test : Nat → Int32 → Mem → Option (Int32 × Mem)} {g_X10_sum : Nat → Int32 → Mem → Option (Int32 × Mem)} {g_X10_term : Nat → Int32 → Mem → Option (Int32 × Mem)} {g_X10_part0 : Nat → Int32 → Mem → Option (Int32 × Mem)} (hg_X10_either : ∀ (o : Nat) (p1 : Int32), gcl G2 o = 10 → ∀ {M : Mem} {r : Int32} {M' : Mem}, g_X10_either o p1 M = some (r, M') → Ct l E2 D K G2 ad A yX10_either (ws_of yX10_either cX10_either 2 (some .boolean)) (rmD 12 400 d) .boolean [.ref (ad o), .int p1] M r M') (hg_X10_both : ∀ (o : Nat) (p1 : Int32), gcl G2 o = 10 → ∀ {M : Mem} {r : Int32} {M' : Mem}, g_X10_both o p1 M = some (r, M') → Ct l E2 D K G2 ad A yX10_both (ws_of yX10_both cX10_both 2 (some .boolean)) (rmD 12 400 d) .boolean [.ref (ad o), .int p1] M r M') (hg_X10_test : ∀ (o : Nat) (p1 : Int32), gcl G2 o = 10 → ∀ {M : Mem} {r : Int32} {M' : Mem}, g_X10_test o p1 M = some (r, M') → Ct l E2 D K G2 ad A yX10_test (ws_of yX10_test cX10_test 3 (some .boolean)) (rmD 12 400 d) .boolean [.ref (ad o), .int p1] M r M') (hg_X10_sum : ∀ (o : Nat) (p1 : Int32), gcl G2 o = 10 → ∀ {M : Mem} {r : Int32} {M' : Mem}, g_X10_sum o p1 M = some (r, M') → Ct l E2 D K G2 ad A yX10_sum (ws_of yX10_sum cX10_sum 3 (some .boolean)) (rmD 12 400 d) .boolean [.ref (ad o), .int p1] M r M') (hg_X10_term : ∀ (o : Nat) (p1 : Int32), gcl G2 o = 10 → ∀ {M : Mem} {r : Int32} {M' : Mem}, g_X10_term o p1 M = some (r, M') → Ct l E2 D K G2 ad A yX10_term (ws_of yX10_term cX10_term 3 (some .boolean)) (rmD 12 400 d) .boolean [.ref (ad o), .int p1] M r M') (hg_X10_part0 : ∀ (o : Nat) (p1 : Int32), gcl G2 o = 10 → ∀ {M : Mem} {r : Int32} {M' : Mem}, g_X10_part0 o p1 M = some (r, M') → Ct l E2 D K G2 ad A yX10_part0 (ws_of yX10_part0 cX10_part0 2 (some .boolean)) (rmD 12 400 d) .boolean [.ref (ad o), .int p1] M r M') {o : Nat} {p1 : Int32} (h0 : gcl G2 o = 10) {M : Mem} {r : Int32} {M' : Mem} (hf : F_X10_sum g_X10_either g_X10_both g_X10_test g_X10_sum g_X10_term g_X10_part0 o p1 M = some (r, M')) : Ct l E2 D K G2 ad A yX10_sum (ws_of yX10_sum cX10_sum 3 (some .boolean)) (rmD 12 400 (d + 1)) .boolean [.ref (ad o), .int p1] M r M' := by
  have hst : Est A E2 := est2
  refine Ct.ofW (by decide) (Nat.le_of_ble_eq_true rfl) ?_
  intro p e s m args below meth c Q H locs ls S hK hE hP hS hl hret
  have hx := S.1
  have hb := S.2.1
  have hown := S.2.2.2.1
  have ht := S.2.2.2.2
  have hl : lv_has ls 3 [(0, .ref (ad o)), (1, .int p1)] := hl
  unfold F_X10_sum at hf
  refine lv_aload_n hx hb dX10_sum_0 rfl (lv_at hl 0 rfl) ?_
  refine lv_iload_n hx hb dX10_sum_1 rfl (lv_at hl 1 rfl) ?_
  refine r_callV (As := [.int p1]) (rest := []) S hK hE hst hP hS h0 (by decide) rfl (cwg_X10_228 ⟨rfl, rfl⟩ ht (rdg (by decide))) rfl hl.1 rfl (Nat.le_of_ble_eq_true rfl) dX10_sum_2 z2 (fun _ _ h => hg_X10_term _ _ h0 h) hf (fun x1 M H locs hP hS bx1 hf => ?_)
  refine r_if_ne (tgt := 10) S dX10_sum_5 (by decide) hf (fun hf => ?_) (fun hf => ?_)
  · obtain ⟨F2, hF2, hf⟩ := it0_g hf
    have L2 : ∀ (n : Nat) (M : Mem) (H : Heap) (locs : List Loc) (ls : Array Slot), lv_has ls 3 [(0, .ref (ad o)), (1, .int p1)] → va_P D classes (gws K G2 ad M) H → va_S A s.heap H locs → it0 F2 n M = some (r, M') → W p l e (rmD 12 400 (d + 1)) s m args below meth c H locs 0 0 Q (F0 m 10 ls []) := by
      intro n
      induction n with
      | zero => intro M H locs ls hl hP hS hf; exact nomatch hf
      | succ n ih2 =>
        intro M H locs ls hl hP hS hf
        obtain ⟨rc2, hrc2, hf⟩ := it0_w hf
        rw [← hrc2] at ih2
        rw [hF2] at hf
        refine lv_aload_n hx hb dX10_sum_10 rfl (lv_at hl 0 rfl) ?_
        refine lv_bipush (v := 43) hx hb dX10_sum_11 (by decide) ?_
        refine r_callV (As := [.int 43]) (rest := []) S hK hE hst hP hS h0 (by decide) rfl (cw_X10_215 ht ⟨rdf (Nat.le_of_ble_eq_true rfl), rdl (Nat.le_of_ble_eq_true rfl)⟩) rfl hl.1 rfl (Nat.le_of_ble_eq_true rfl) dX10_sum_13 z2 (fun _ _ h => c_X10_isSign hG  h0 h) hf (fun x3 M H locs hP hS bx3 hf => ?_)
        obtain ⟨k4, hk4, hf⟩ := jn_w hf
        have J4 : ∀ (M : Mem) (H : Heap) (locs : List Loc) (ls : Array Slot), lv_has ls 3 [(0, .ref (ad o)), (1, .int p1)] → va_P D classes (gws K G2 ad M) H → va_S A s.heap H locs → k4 M = some (r, M') → W p l e (rmD 12 400 (d + 1)) s m args below meth c H locs 0 0 Q (F0 m 28 ls []) := by
          intro M H locs ls hl hP hS hf
          rw [hk4] at hf
          refine lv_aload_n hx hb dX10_sum_28 rfl (lv_at hl 0 rfl) ?_
          refine gf_X10_182 S hK hP h0 dX10_sum_29 hf (fun x5 hf => ?_)
          refine lv_istore_n (lv' := [(2, .int x5), (0, .ref (ad o)), (1, .int p1)]) hx hb dX10_sum_32 rfl hl (by decide) rfl (fun ls hl => ?_)
          refine lv_aload_n hx hb dX10_sum_33 rfl (lv_at hl 1 rfl) ?_
          refine r_callVv (As := []) (rest := []) S hK hE hst hP hS h0 (by decide) rfl (cw_X10_203 ht ⟨rdf (Nat.le_of_ble_eq_true rfl), rdl (Nat.le_of_ble_eq_true rfl)⟩) rfl hl.1 rfl (Nat.le_of_ble_eq_true rfl) dX10_sum_34 z2 (fun _ _ h => c_X10_goesOn hG  h0 h) hf (fun x6 M H locs hP hS hf => ?_)
          refine lv_aload_n hx hb dX10_sum_37 rfl (lv_at hl 1 rfl) ?_
          refine lv_iload_n hx hb dX10_sum_38 rfl (lv_at hl 2 rfl) ?_
          refine r_callV (As := [.int p1]) (rest := []) S hK hE hst hP hS h0 (by decide) rfl (cwg_X10_228 ⟨rfl, rfl⟩ ht (rdg (by decide))) rfl hl.1 rfl (Nat.le_of_ble_eq_true rfl) dX10_sum_39 z2 (fun _ _ h => hg_X10_term _ _ h0 h) hf (fun x7 M H locs hP hS bx7 hf => ?_)
          refine r_if_ne (tgt := 47) S dX10_sum_42 (by decide) hf (fun hf => ?_) (fun hf => ?_)
          · refine lv_aload_n hx hb dX10_sum_47 rfl (lv_at hl 1 rfl) ?_
            refine lv_iconst (v := 2) hx hb dX10_sum_48 (by decide) ?_
            refine lv_iload_n hx hb dX10_sum_49 rfl (lv_at hl 0 rfl) ?_
            refine r_callVv (As := [.int 2, .int x5]) (rest := []) S hK hE hst hP hS h0 (by decide) rfl (cw_X10_218 ht ⟨rdf (Nat.le_of_ble_eq_true rfl), rdl (Nat.le_of_ble_eq_true rfl)⟩) rfl hl.1 rfl (Nat.le_of_ble_eq_true rfl) dX10_sum_50 z2 (fun _ _ h => c_X10_step hG  h0 h) hf (fun x8 M H locs hP hS hf => ?_)
            refine lv_goto (tgt := 10) hx hb dX10_sum_53 (by decide) ?_
            exact ih2 M H locs ls (lv_sub hl [1, 2] rfl) hP hS hf
          · refine lv_iconst (v := 0) hx hb dX10_sum_45 (by decide) ?_
            exact hret _ _ _ _ _ _ dX10_sum_46 hP hS rfl hf
        refine r_if_ne (tgt := 28) S dX10_sum_16 (by decide) hf (fun hf => ?_) (fun hf => ?_)
        · exact J4 M H locs ls (lv_sub hl [0, 1] rfl) hP hS hf
        · refine lv_aload_n hx hb dX10_sum_19 rfl (lv_at hl 0 rfl) ?_
          refine lv_bipush (v := 45) hx hb dX10_sum_20 (by decide) ?_
          refine r_callV (As := [.int 45]) (rest := []) S hK hE hst hP hS h0 (by decide) rfl (cw_X10_215 ht ⟨rdf (Nat.le_of_ble_eq_true rfl), rdl (Nat.le_of_ble_eq_true rfl)⟩) rfl hl.1 rfl (Nat.le_of_ble_eq_true rfl) dX10_sum_22 z2 (fun _ _ h => c_X10_isSign hG  h0 h) hf (fun x9 M H locs hP hS bx9 hf => ?_)
          refine r_if_eq (tgt := 56) S dX10_sum_25 (by decide) hf (fun hf => ?_) (fun hf => ?_)
          · refine lv_iconst (v := 1) hx hb dX10_sum_56 (by decide) ?_
            exact hret _ _ _ _ _ _ dX10_sum_57 hP hS rfl hf
          · exact J4 M H locs ls (lv_sub hl [0, 1] rfl) hP hS hf
    exact L2 _ M H locs ls (lv_sub hl [0, 1] rfl) hP hS hf
  · refine lv_iconst (v := 0) hx hb dX10_sum_8 (by decide) ?_
    exact hret _ _ _ _ _ _ dX10_sum_9 hP hS rfl hf
set_option maxHeartbeats 4000000 in
set_option maxRecDepth 100000 in
theorem co_X10_term {l : Launch} {D : va_G} {K : Ks} {ad : Nat → Nat} {A : Nat → Prop} (hG : Gok G2 ad A) {d : Nat} {g_X10_either : Nat → Int32 → Mem → Option (Int32 × Mem)} {g_X10_both : Nat → Int32 → Mem → Option (Int32 × Mem)} {g_X10_test : Nat → Int32 → Mem → Option (Int32 × Mem)} {g_X10_sum : Nat → Int32 → Mem → Option (Int32 × Mem)} {g_X10_term : Nat → Int32 → Mem → Option (Int32 × Mem)} {g_X10_part0 : Nat → Int32 → Mem → Option (Int32 × Mem)} (hg_X10_either : ∀ (o : Nat) (p1 : Int32), gcl G2 o = 10 → ∀ {M : Mem} {r : Int32} {M' : Mem}, g_X10_either o p1 M = some (r, M') → Ct l E2 D K G2 ad A yX10_either (ws_of yX10_either cX10_either 2 (some .boolean)) (rmD 12 400 d) .boolean [.ref (ad o), .int p1] M r M') (hg_X10_both : ∀ (o : Nat) (p1 : Int32), gcl G2 o = 10 → ∀ {M : Mem} {r : Int32} {M' : Mem}, g_X10_both o p1 M = some (r, M') → Ct l E2 D K G2 ad A yX10_both (ws_of yX10_both cX10_both 2 (some .boolean)) (rmD 12 400 d) .boolean [.ref (ad o), .int p1] M r M') (hg_X10_test : ∀ (o : Nat) (p1 : Int32), gcl G2 o = 10 → ∀ {M : Mem} {r : Int32} {M' : Mem}, g_X10_test o p1 M = some (r, M') → Ct l E2 D K G2 ad A yX10_test (ws_of yX10_test cX10_test 3 (some .boolean)) (rmD 12 400 d) .boolean [.ref (ad o), .int p1] M r M') (hg_X10_sum : ∀ (o : Nat) (p1 : Int32), gcl G2 o = 10 → ∀ {M : Mem} {r : Int32} {M' : Mem}, g_X10_sum o p1 M = some (r, M') → Ct l E2 D K G2 ad A yX10_sum (ws_of yX10_sum cX10_sum 3 (some .boolean)) (rmD 12 400 d) .boolean [.ref (ad o), .int p1] M r M') (hg_X10_term : ∀ (o : Nat) (p1 : Int32), gcl G2 o = 10 → ∀ {M : Mem} {r : Int32} {M' : Mem}, g_X10_term o p1 M = some (r, M') → Ct l E2 D K G2 ad A yX10_term (ws_of yX10_term cX10_term 3 (some .boolean)) (rmD 12 400 d) .boolean [.ref (ad o), .int p1] M r M') (hg_X10_part0 : ∀ (o : Nat) (p1 : Int32), gcl G2 o = 10 → ∀ {M : Mem} {r : Int32} {M' : Mem}, g_X10_part0 o p1 M = some (r, M') → Ct l E2 D K G2 ad A yX10_part0 (ws_of yX10_part0 cX10_part0 2 (some .boolean)) (rmD 12 400 d) .boolean [.ref (ad o), .int p1] M r M') {o : Nat} {p1 : Int32} (h0 : gcl G2 o = 10) {M : Mem} {r : Int32} {M' : Mem} (hf : F_X10_term g_X10_either g_X10_both g_X10_test g_X10_sum g_X10_term g_X10_part0 o p1 M = some (r, M')) : Ct l E2 D K G2 ad A yX10_term (ws_of yX10_term cX10_term 3 (some .boolean)) (rmD 12 400 (d + 1)) .boolean [.ref (ad o), .int p1] M r M' := by
  have hst : Est A E2 := est2
  refine Ct.ofW (by decide) (Nat.le_of_ble_eq_true rfl) ?_
  intro p e s m args below meth c Q H locs ls S hK hE hP hS hl hret
  have hx := S.1
  have hb := S.2.1
  have hown := S.2.2.2.1
  have ht := S.2.2.2.2
  have hl : lv_has ls 3 [(0, .ref (ad o)), (1, .int p1)] := hl
  unfold F_X10_term at hf
  refine lv_aload_n hx hb dX10_term_0 rfl (lv_at hl 0 rfl) ?_
  refine lv_iload_n hx hb dX10_term_1 rfl (lv_at hl 1 rfl) ?_
  refine r_callV (As := [.int p1]) (rest := []) S hK hE hst hP hS h0 (by decide) rfl (cwg_X10_231 ⟨rfl, rfl⟩ ht (rdg (by decide))) rfl hl.1 rfl (Nat.le_of_ble_eq_true rfl) dX10_term_2 z2 (fun _ _ h => hg_X10_part0 _ _ h0 h) hf (fun x1 M H locs hP hS bx1 hf => ?_)
  refine r_if_ne (tgt := 10) S dX10_term_5 (by decide) hf (fun hf => ?_) (fun hf => ?_)
  · obtain ⟨F2, hF2, hf⟩ := it0_g hf
    have L2 : ∀ (n : Nat) (M : Mem) (H : Heap) (locs : List Loc) (ls : Array Slot), lv_has ls 3 [(0, .ref (ad o)), (1, .int p1)] → va_P D classes (gws K G2 ad M) H → va_S A s.heap H locs → it0 F2 n M = some (r, M') → W p l e (rmD 12 400 (d + 1)) s m args below meth c H locs 0 0 Q (F0 m 10 ls []) := by
      intro n
      induction n with
      | zero => intro M H locs ls hl hP hS hf; exact nomatch hf
      | succ n ih2 =>
        intro M H locs ls hl hP hS hf
        obtain ⟨rc2, hrc2, hf⟩ := it0_w hf
        rw [← hrc2] at ih2
        rw [hF2] at hf
        refine lv_aload_n hx hb dX10_term_10 rfl (lv_at hl 0 rfl) ?_
        refine lv_bipush (v := 42) hx hb dX10_term_11 (by decide) ?_
        refine r_callV (As := [.int 42]) (rest := []) S hK hE hst hP hS h0 (by decide) rfl (cw_X10_215 ht ⟨rdf (Nat.le_of_ble_eq_true rfl), rdl (Nat.le_of_ble_eq_true rfl)⟩) rfl hl.1 rfl (Nat.le_of_ble_eq_true rfl) dX10_term_13 z2 (fun _ _ h => c_X10_isSign hG  h0 h) hf (fun x3 M H locs hP hS bx3 hf => ?_)
        obtain ⟨k4, hk4, hf⟩ := jn_w hf
        have J4 : ∀ (M : Mem) (H : Heap) (locs : List Loc) (ls : Array Slot), lv_has ls 3 [(0, .ref (ad o)), (1, .int p1)] → va_P D classes (gws K G2 ad M) H → va_S A s.heap H locs → k4 M = some (r, M') → W p l e (rmD 12 400 (d + 1)) s m args below meth c H locs 0 0 Q (F0 m 28 ls []) := by
          intro M H locs ls hl hP hS hf
          rw [hk4] at hf
          refine lv_aload_n hx hb dX10_term_28 rfl (lv_at hl 0 rfl) ?_
          refine gf_X10_182 S hK hP h0 dX10_term_29 hf (fun x5 hf => ?_)
          refine lv_istore_n (lv' := [(2, .int x5), (0, .ref (ad o)), (1, .int p1)]) hx hb dX10_term_32 rfl hl (by decide) rfl (fun ls hl => ?_)
          refine lv_aload_n hx hb dX10_term_33 rfl (lv_at hl 1 rfl) ?_
          refine r_callVv (As := []) (rest := []) S hK hE hst hP hS h0 (by decide) rfl (cw_X10_203 ht ⟨rdf (Nat.le_of_ble_eq_true rfl), rdl (Nat.le_of_ble_eq_true rfl)⟩) rfl hl.1 rfl (Nat.le_of_ble_eq_true rfl) dX10_term_34 z2 (fun _ _ h => c_X10_goesOn hG  h0 h) hf (fun x6 M H locs hP hS hf => ?_)
          refine lv_aload_n hx hb dX10_term_37 rfl (lv_at hl 1 rfl) ?_
          refine lv_iload_n hx hb dX10_term_38 rfl (lv_at hl 2 rfl) ?_
          refine r_callV (As := [.int p1]) (rest := []) S hK hE hst hP hS h0 (by decide) rfl (cwg_X10_231 ⟨rfl, rfl⟩ ht (rdg (by decide))) rfl hl.1 rfl (Nat.le_of_ble_eq_true rfl) dX10_term_39 z2 (fun _ _ h => hg_X10_part0 _ _ h0 h) hf (fun x7 M H locs hP hS bx7 hf => ?_)
          refine r_if_ne (tgt := 47) S dX10_term_42 (by decide) hf (fun hf => ?_) (fun hf => ?_)
          · refine lv_aload_n hx hb dX10_term_47 rfl (lv_at hl 1 rfl) ?_
            refine lv_iconst (v := 2) hx hb dX10_term_48 (by decide) ?_
            refine lv_iload_n hx hb dX10_term_49 rfl (lv_at hl 0 rfl) ?_
            refine r_callVv (As := [.int 2, .int x5]) (rest := []) S hK hE hst hP hS h0 (by decide) rfl (cw_X10_218 ht ⟨rdf (Nat.le_of_ble_eq_true rfl), rdl (Nat.le_of_ble_eq_true rfl)⟩) rfl hl.1 rfl (Nat.le_of_ble_eq_true rfl) dX10_term_50 z2 (fun _ _ h => c_X10_step hG  h0 h) hf (fun x8 M H locs hP hS hf => ?_)
            refine lv_goto (tgt := 10) hx hb dX10_term_53 (by decide) ?_
            exact ih2 M H locs ls (lv_sub hl [1, 2] rfl) hP hS hf
          · refine lv_iconst (v := 0) hx hb dX10_term_45 (by decide) ?_
            exact hret _ _ _ _ _ _ dX10_term_46 hP hS rfl hf
        refine r_if_ne (tgt := 28) S dX10_term_16 (by decide) hf (fun hf => ?_) (fun hf => ?_)
        · exact J4 M H locs ls (lv_sub hl [0, 1] rfl) hP hS hf
        · refine lv_aload_n hx hb dX10_term_19 rfl (lv_at hl 0 rfl) ?_
          refine lv_bipush (v := 47) hx hb dX10_term_20 (by decide) ?_
          refine r_callV (As := [.int 47]) (rest := []) S hK hE hst hP hS h0 (by decide) rfl (cw_X10_215 ht ⟨rdf (Nat.le_of_ble_eq_true rfl), rdl (Nat.le_of_ble_eq_true rfl)⟩) rfl hl.1 rfl (Nat.le_of_ble_eq_true rfl) dX10_term_22 z2 (fun _ _ h => c_X10_isSign hG  h0 h) hf (fun x9 M H locs hP hS bx9 hf => ?_)
          refine r_if_eq (tgt := 56) S dX10_term_25 (by decide) hf (fun hf => ?_) (fun hf => ?_)
          · refine lv_iconst (v := 1) hx hb dX10_term_56 (by decide) ?_
            exact hret _ _ _ _ _ _ dX10_term_57 hP hS rfl hf
          · exact J4 M H locs ls (lv_sub hl [0, 1] rfl) hP hS hf
    exact L2 _ M H locs ls (lv_sub hl [0, 1] rfl) hP hS hf
  · refine lv_iconst (v := 0) hx hb dX10_term_8 (by decide) ?_
    exact hret _ _ _ _ _ _ dX10_term_9 hP hS rfl hf
set_option maxHeartbeats 4000000 in
set_option maxRecDepth 100000 in
theorem co_X10_part0 {l : Launch} {D : va_G} {K : Ks} {ad : Nat → Nat} {A : Nat → Prop} (hG : Gok G2 ad A) {d : Nat} {g_X10_either : Nat → Int32 → Mem → Option (Int32 × Mem)} {g_X10_both : Nat → Int32 → Mem → Option (Int32 × Mem)} {g_X10_test : Nat → Int32 → Mem → Option (Int32 × Mem)} {g_X10_sum : Nat → Int32 → Mem → Option (Int32 × Mem)} {g_X10_term : Nat → Int32 → Mem → Option (Int32 × Mem)} {g_X10_part0 : Nat → Int32 → Mem → Option (Int32 × Mem)} (hg_X10_either : ∀ (o : Nat) (p1 : Int32), gcl G2 o = 10 → ∀ {M : Mem} {r : Int32} {M' : Mem}, g_X10_either o p1 M = some (r, M') → Ct l E2 D K G2 ad A yX10_either (ws_of yX10_either cX10_either 2 (some .boolean)) (rmD 12 400 d) .boolean [.ref (ad o), .int p1] M r M') (hg_X10_both : ∀ (o : Nat) (p1 : Int32), gcl G2 o = 10 → ∀ {M : Mem} {r : Int32} {M' : Mem}, g_X10_both o p1 M = some (r, M') → Ct l E2 D K G2 ad A yX10_both (ws_of yX10_both cX10_both 2 (some .boolean)) (rmD 12 400 d) .boolean [.ref (ad o), .int p1] M r M') (hg_X10_test : ∀ (o : Nat) (p1 : Int32), gcl G2 o = 10 → ∀ {M : Mem} {r : Int32} {M' : Mem}, g_X10_test o p1 M = some (r, M') → Ct l E2 D K G2 ad A yX10_test (ws_of yX10_test cX10_test 3 (some .boolean)) (rmD 12 400 d) .boolean [.ref (ad o), .int p1] M r M') (hg_X10_sum : ∀ (o : Nat) (p1 : Int32), gcl G2 o = 10 → ∀ {M : Mem} {r : Int32} {M' : Mem}, g_X10_sum o p1 M = some (r, M') → Ct l E2 D K G2 ad A yX10_sum (ws_of yX10_sum cX10_sum 3 (some .boolean)) (rmD 12 400 d) .boolean [.ref (ad o), .int p1] M r M') (hg_X10_term : ∀ (o : Nat) (p1 : Int32), gcl G2 o = 10 → ∀ {M : Mem} {r : Int32} {M' : Mem}, g_X10_term o p1 M = some (r, M') → Ct l E2 D K G2 ad A yX10_term (ws_of yX10_term cX10_term 3 (some .boolean)) (rmD 12 400 d) .boolean [.ref (ad o), .int p1] M r M') (hg_X10_part0 : ∀ (o : Nat) (p1 : Int32), gcl G2 o = 10 → ∀ {M : Mem} {r : Int32} {M' : Mem}, g_X10_part0 o p1 M = some (r, M') → Ct l E2 D K G2 ad A yX10_part0 (ws_of yX10_part0 cX10_part0 2 (some .boolean)) (rmD 12 400 d) .boolean [.ref (ad o), .int p1] M r M') {o : Nat} {p1 : Int32} (h0 : gcl G2 o = 10) {M : Mem} {r : Int32} {M' : Mem} (hf : F_X10_part0 g_X10_either g_X10_both g_X10_test g_X10_sum g_X10_term g_X10_part0 o p1 M = some (r, M')) : Ct l E2 D K G2 ad A yX10_part0 (ws_of yX10_part0 cX10_part0 2 (some .boolean)) (rmD 12 400 (d + 1)) .boolean [.ref (ad o), .int p1] M r M' := by
  have hst : Est A E2 := est2
  refine Ct.ofW (by decide) (Nat.le_of_ble_eq_true rfl) ?_
  intro p e s m args below meth c Q H locs ls S hK hE hP hS hl hret
  have hx := S.1
  have hb := S.2.1
  have hown := S.2.2.2.1
  have ht := S.2.2.2.2
  have hl : lv_has ls 2 [(0, .ref (ad o)), (1, .int p1)] := hl
  unfold F_X10_part0 at hf
  refine lv_aload_n hx hb dX10_part0_0 rfl (lv_at hl 0 rfl) ?_
  refine gf_X10_173 S hK hP h0 dX10_part0_1 hf (fun x1 hf => ?_)
  refine lv_iconst (v := 2) hx hb dX10_part0_4 (by decide) ?_
  refine r_icmp_ne (tgt := 33) S dX10_part0_5 (by decide) hf (fun hf => ?_) (fun hf => ?_)
  · refine lv_aload_n hx hb dX10_part0_33 rfl (lv_at hl 0 rfl) ?_
    refine gf_X10_173 S hK hP h0 dX10_part0_34 hf (fun x2 hf => ?_)
    refine lv_iconst (v := 1) hx hb dX10_part0_37 (by decide) ?_
    obtain ⟨k3, hk3, hf⟩ := jn_w hf
    have J3 : ∀ (M : Mem) (H : Heap) (locs : List Loc) (ls : Array Slot), lv_has ls 2 [(0, .ref (ad o)), (1, .int p1)] → va_P D classes (gws K G2 ad M) H → va_S A s.heap H locs → k3 M = some (r, M') → W p l e (rmD 12 400 (d + 1)) s m args below meth c H locs 0 0 Q (F0 m 84 ls []) := by
      intro M H locs ls hl hP hS hf
      rw [hk3] at hf
      refine lv_aload_n hx hb dX10_part0_84 rfl (lv_at hl 0 rfl) ?_
      refine lv_bipush (v := 33) hx hb dX10_part0_85 (by decide) ?_
      refine r_callV (As := [.int 33]) (rest := []) S hK hE hst hP hS h0 (by decide) rfl (cw_X10_215 ht ⟨rdf (Nat.le_of_ble_eq_true rfl), rdl (Nat.le_of_ble_eq_true rfl)⟩) rfl hl.1 rfl (Nat.le_of_ble_eq_true rfl) dX10_part0_87 z2 (fun _ _ h => c_X10_isSign hG  h0 h) hf (fun x4 M H locs hP hS bx4 hf => ?_)
      obtain ⟨k5, hk5, hf⟩ := jn_w hf
      have J5 : ∀ (M : Mem) (H : Heap) (locs : List Loc) (ls : Array Slot), lv_has ls 2 [(0, .ref (ad o)), (1, .int p1)] → va_P D classes (gws K G2 ad M) H → va_S A s.heap H locs → k5 M = some (r, M') → W p l e (rmD 12 400 (d + 1)) s m args below meth c H locs 0 0 Q (F0 m 145 ls []) := by
        intro M H locs ls hl hP hS hf
        rw [hk5] at hf
        refine lv_aload_n hx hb dX10_part0_145 rfl (lv_at hl 0 rfl) ?_
        refine lv_bipush (v := 40) hx hb dX10_part0_146 (by decide) ?_
        refine r_callV (As := [.int 40]) (rest := []) S hK hE hst hP hS h0 (by decide) rfl (cw_X10_215 ht ⟨rdf (Nat.le_of_ble_eq_true rfl), rdl (Nat.le_of_ble_eq_true rfl)⟩) rfl hl.1 rfl (Nat.le_of_ble_eq_true rfl) dX10_part0_148 z2 (fun _ _ h => c_X10_isSign hG  h0 h) hf (fun x6 M H locs hP hS bx6 hf => ?_)
        refine r_if_eq (tgt := 163) S dX10_part0_151 (by decide) hf (fun hf => ?_) (fun hf => ?_)
        · refine lv_iconst (v := 0) hx hb dX10_part0_163 (by decide) ?_
          exact hret _ _ _ _ _ _ dX10_part0_164 hP hS rfl hf
        · refine lv_aload_n hx hb dX10_part0_154 rfl (lv_at hl 0 rfl) ?_
          refine gf_X10_243 S hK hP h0 dX10_part0_155 hf (fun x7 hf => ?_)
          refine lv_bipush (v := 8) hx hb dX10_part0_158 (by decide) ?_
          refine r_icmp_ne (tgt := 165) S dX10_part0_160 (by decide) hf (fun hf => ?_) (fun hf => ?_)
          · refine lv_aload_n hx hb dX10_part0_165 rfl (lv_at hl 0 rfl) ?_
            refine lv_dup hx hb dX10_part0_166 rfl ?_
            refine gf_X10_243 S hK hP h0 dX10_part0_167 hf (fun x8 hf => ?_)
            refine lv_iconst (v := 1) hx hb dX10_part0_170 (by decide) ?_
            refine lv_iadd hx hb dX10_part0_171 ?_
            refine pf_X10_243 S hK hG hP hS h0 dX10_part0_172 hf (fun M H locs hP hS hf => ?_)
            refine lv_aload_n hx hb dX10_part0_175 rfl (lv_at hl 0 rfl) ?_
            refine r_callVv (As := []) (rest := []) S hK hE hst hP hS h0 (by decide) rfl (cw_X10_203 ht ⟨rdf (Nat.le_of_ble_eq_true rfl), rdl (Nat.le_of_ble_eq_true rfl)⟩) rfl hl.1 rfl (Nat.le_of_ble_eq_true rfl) dX10_part0_176 z2 (fun _ _ h => c_X10_goesOn hG  h0 h) hf (fun x9 M H locs hP hS hf => ?_)
            refine lv_aload_n hx hb dX10_part0_179 rfl (lv_at hl 0 rfl) ?_
            refine lv_iload_n hx hb dX10_part0_180 rfl (lv_at hl 1 rfl) ?_
            refine r_callV (As := [.int p1]) (rest := []) S hK hE hst hP hS h0 (by decide) rfl (cwg_X10_246 ⟨rfl, rfl⟩ ht (rdg (by decide))) rfl hl.1 rfl (Nat.le_of_ble_eq_true rfl) dX10_part0_181 z2 (fun _ _ h => hg_X10_either _ _ h0 h) hf (fun x10 M H locs hP hS bx10 hf => ?_)
            refine r_if_eq (tgt := 196) S dX10_part0_184 (by decide) hf (fun hf => ?_) (fun hf => ?_)
            · refine lv_iconst (v := 0) hx hb dX10_part0_196 (by decide) ?_
              exact hret _ _ _ _ _ _ dX10_part0_197 hP hS rfl hf
            · refine lv_aload_n hx hb dX10_part0_187 rfl (lv_at hl 0 rfl) ?_
              refine lv_bipush (v := 41) hx hb dX10_part0_188 (by decide) ?_
              refine r_callV (As := [.int 41]) (rest := []) S hK hE hst hP hS h0 (by decide) rfl (cw_X10_215 ht ⟨rdf (Nat.le_of_ble_eq_true rfl), rdl (Nat.le_of_ble_eq_true rfl)⟩) rfl hl.1 rfl (Nat.le_of_ble_eq_true rfl) dX10_part0_190 z2 (fun _ _ h => c_X10_isSign hG  h0 h) hf (fun x11 M H locs hP hS bx11 hf => ?_)
              refine r_if_ne (tgt := 198) S dX10_part0_193 (by decide) hf (fun hf => ?_) (fun hf => ?_)
              · refine lv_aload_n hx hb dX10_part0_198 rfl (lv_at hl 0 rfl) ?_
                refine lv_dup hx hb dX10_part0_199 rfl ?_
                refine gf_X10_243 S hK hP h0 dX10_part0_200 hf (fun x12 hf => ?_)
                refine lv_iconst (v := 1) hx hb dX10_part0_203 (by decide) ?_
                refine lv_isub hx hb dX10_part0_204 ?_
                refine pf_X10_243 S hK hG hP hS h0 dX10_part0_205 hf (fun M H locs hP hS hf => ?_)
                refine lv_aload_n hx hb dX10_part0_208 rfl (lv_at hl 0 rfl) ?_
                refine r_callVv (As := []) (rest := []) S hK hE hst hP hS h0 (by decide) rfl (cw_X10_203 ht ⟨rdf (Nat.le_of_ble_eq_true rfl), rdl (Nat.le_of_ble_eq_true rfl)⟩) rfl hl.1 rfl (Nat.le_of_ble_eq_true rfl) dX10_part0_209 z2 (fun _ _ h => c_X10_goesOn hG  h0 h) hf (fun x13 M H locs hP hS hf => ?_)
                refine lv_iconst (v := 1) hx hb dX10_part0_212 (by decide) ?_
                exact hret _ _ _ _ _ _ dX10_part0_213 hP hS rfl hf
              · refine lv_iconst (v := 0) hx hb dX10_part0_196 (by decide) ?_
                exact hret _ _ _ _ _ _ dX10_part0_197 hP hS rfl hf
          · refine lv_iconst (v := 0) hx hb dX10_part0_163 (by decide) ?_
            exact hret _ _ _ _ _ _ dX10_part0_164 hP hS rfl hf
      refine r_if_eq (tgt := 145) S dX10_part0_90 (by decide) hf (fun hf => ?_) (fun hf => ?_)
      · exact J5 M H locs ls (lv_sub hl [0, 1] rfl) hP hS hf
      · refine lv_aload_n hx hb dX10_part0_93 rfl (lv_at hl 0 rfl) ?_
        refine gf_X10_240 S hK hP h0 dX10_part0_94 hf (fun x14 hf => ?_)
        refine lv_bipush (v := 8) hx hb dX10_part0_97 (by decide) ?_
        refine r_icmp_ge (tgt := 145) S dX10_part0_99 (by decide) hf (fun hf => ?_) (fun hf => ?_)
        · exact J5 M H locs ls (lv_sub hl [0, 1] rfl) hP hS hf
        · refine lv_aload_n hx hb dX10_part0_102 rfl (lv_at hl 0 rfl) ?_
          refine lv_dup hx hb dX10_part0_103 rfl ?_
          refine gf_X10_240 S hK hP h0 dX10_part0_104 hf (fun x15 hf => ?_)
          refine lv_iconst (v := 1) hx hb dX10_part0_107 (by decide) ?_
          refine lv_iadd hx hb dX10_part0_108 ?_
          refine pf_X10_240 S hK hG hP hS h0 dX10_part0_109 hf (fun M H locs hP hS hf => ?_)
          refine lv_aload_n hx hb dX10_part0_112 rfl (lv_at hl 0 rfl) ?_
          refine r_callVv (As := []) (rest := []) S hK hE hst hP hS h0 (by decide) rfl (cw_X10_203 ht ⟨rdf (Nat.le_of_ble_eq_true rfl), rdl (Nat.le_of_ble_eq_true rfl)⟩) rfl hl.1 rfl (Nat.le_of_ble_eq_true rfl) dX10_part0_113 z2 (fun _ _ h => c_X10_goesOn hG  h0 h) hf (fun x16 M H locs hP hS hf => ?_)
          refine lv_aload_n hx hb dX10_part0_116 rfl (lv_at hl 0 rfl) ?_
          refine lv_iload_n hx hb dX10_part0_117 rfl (lv_at hl 1 rfl) ?_
          refine r_callV (As := [.int p1]) (rest := []) S hK hE hst hP hS h0 (by decide) rfl (cwg_X10_231 ⟨rfl, rfl⟩ ht (rdg (by decide))) rfl hl.1 rfl (Nat.le_of_ble_eq_true rfl) dX10_part0_118 z2 (fun _ _ h => hg_X10_part0 _ _ h0 h) hf (fun x17 M H locs hP hS bx17 hf => ?_)
          refine r_if_ne (tgt := 126) S dX10_part0_121 (by decide) hf (fun hf => ?_) (fun hf => ?_)
          · refine lv_aload_n hx hb dX10_part0_126 rfl (lv_at hl 0 rfl) ?_
            refine lv_dup hx hb dX10_part0_127 rfl ?_
            refine gf_X10_240 S hK hP h0 dX10_part0_128 hf (fun x18 hf => ?_)
            refine lv_iconst (v := 1) hx hb dX10_part0_131 (by decide) ?_
            refine lv_isub hx hb dX10_part0_132 ?_
            refine pf_X10_240 S hK hG hP hS h0 dX10_part0_133 hf (fun M H locs hP hS hf => ?_)
            refine lv_aload_n hx hb dX10_part0_136 rfl (lv_at hl 0 rfl) ?_
            refine lv_iconst (v := 2) hx hb dX10_part0_137 (by decide) ?_
            refine lv_bipush (v := 33) hx hb dX10_part0_138 (by decide) ?_
            refine r_callVv (As := [.int 2, .int 33]) (rest := []) S hK hE hst hP hS h0 (by decide) rfl (cw_X10_218 ht ⟨rdf (Nat.le_of_ble_eq_true rfl), rdl (Nat.le_of_ble_eq_true rfl)⟩) rfl hl.1 rfl (Nat.le_of_ble_eq_true rfl) dX10_part0_140 z2 (fun _ _ h => c_X10_step hG  h0 h) hf (fun x19 M H locs hP hS hf => ?_)
            refine lv_iconst (v := 1) hx hb dX10_part0_143 (by decide) ?_
            exact hret _ _ _ _ _ _ dX10_part0_144 hP hS rfl hf
          · refine lv_iconst (v := 0) hx hb dX10_part0_124 (by decide) ?_
            exact hret _ _ _ _ _ _ dX10_part0_125 hP hS rfl hf
    refine r_icmp_ne (tgt := 84) S dX10_part0_38 (by decide) hf (fun hf => ?_) (fun hf => ?_)
    · exact J3 M H locs ls (lv_sub hl [0, 1] rfl) hP hS hf
    · refine lv_aload_n hx hb dX10_part0_41 rfl (lv_at hl 0 rfl) ?_
      refine gf_X10_182 S hK hP h0 dX10_part0_42 hf (fun x20 hf => ?_)
      refine r_if_eq (tgt := 84) S dX10_part0_45 (by decide) hf (fun hf => ?_) (fun hf => ?_)
      · exact J3 M H locs ls (lv_sub hl [0, 1] rfl) hP hS hf
      · refine lv_iload_n hx hb dX10_part0_48 rfl (lv_at hl 1 rfl) ?_
        refine lv_aload_n hx hb dX10_part0_49 rfl (lv_at hl 0 rfl) ?_
        refine gf_X10_182 S hK hP h0 dX10_part0_50 hf (fun x21 hf => ?_)
        refine r_callS (As := [.int p1, .int x21]) (rest := []) S hK hE hst hP hS (cw_X10_237 ht ⟨rdf (Nat.le_of_ble_eq_true rfl), rdl (Nat.le_of_ble_eq_true rfl)⟩) rfl hl.1 rfl (Nat.le_of_ble_eq_true rfl) dX10_part0_53 z2 (fun _ _ h => c_X10_isName hG  h) hf (fun x22 M H locs hP hS bx22 hf => ?_)
        refine r_if_eq (tgt := 84) S dX10_part0_56 (by decide) hf (fun hf => ?_) (fun hf => ?_)
        · exact J3 M H locs ls (lv_sub hl [0, 1] rfl) hP hS hf
        · refine lv_aload_n hx hb dX10_part0_59 rfl (lv_at hl 0 rfl) ?_
          refine lv_iconst (v := 1) hx hb dX10_part0_60 (by decide) ?_
          refine lv_aload_n hx hb dX10_part0_61 rfl (lv_at hl 0 rfl) ?_
          refine gf_X10_182 S hK hP h0 dX10_part0_62 hf (fun x23 hf => ?_)
          refine r_callVv (As := [.int 1, .int x23]) (rest := []) S hK hE hst hP hS h0 (by decide) rfl (cw_X10_218 ht ⟨rdf (Nat.le_of_ble_eq_true rfl), rdl (Nat.le_of_ble_eq_true rfl)⟩) rfl hl.1 rfl (Nat.le_of_ble_eq_true rfl) dX10_part0_65 z2 (fun _ _ h => c_X10_step hG  h0 h) hf (fun x24 M H locs hP hS hf => ?_)
          refine lv_aload_n hx hb dX10_part0_68 rfl (lv_at hl 0 rfl) ?_
          refine lv_dup hx hb dX10_part0_69 rfl ?_
          refine gf_X10_234 S hK hP h0 dX10_part0_70 hf (fun x25 hf => ?_)
          refine lv_iconst (v := 1) hx hb dX10_part0_73 (by decide) ?_
          refine lv_iadd hx hb dX10_part0_74 ?_
          refine pf_X10_234 S hK hG hP hS h0 dX10_part0_75 hf (fun M H locs hP hS hf => ?_)
          refine lv_aload_n hx hb dX10_part0_78 rfl (lv_at hl 0 rfl) ?_
          refine r_callVv (As := []) (rest := []) S hK hE hst hP hS h0 (by decide) rfl (cw_X10_203 ht ⟨rdf (Nat.le_of_ble_eq_true rfl), rdl (Nat.le_of_ble_eq_true rfl)⟩) rfl hl.1 rfl (Nat.le_of_ble_eq_true rfl) dX10_part0_79 z2 (fun _ _ h => c_X10_goesOn hG  h0 h) hf (fun x26 M H locs hP hS hf => ?_)
          refine lv_iconst (v := 1) hx hb dX10_part0_82 (by decide) ?_
          exact hret _ _ _ _ _ _ dX10_part0_83 hP hS rfl hf
  · refine lv_aload_n hx hb dX10_part0_8 rfl (lv_at hl 0 rfl) ?_
    refine lv_iconst (v := 0) hx hb dX10_part0_9 (by decide) ?_
    refine lv_aload_n hx hb dX10_part0_10 rfl (lv_at hl 0 rfl) ?_
    refine gf_X10_188 S hK hP h0 dX10_part0_11 hf (fun x27 hf => ?_)
    refine r_callVv (As := [.int 0, .int x27]) (rest := []) S hK hE hst hP hS h0 (by decide) rfl (cw_X10_218 ht ⟨rdf (Nat.le_of_ble_eq_true rfl), rdl (Nat.le_of_ble_eq_true rfl)⟩) rfl hl.1 rfl (Nat.le_of_ble_eq_true rfl) dX10_part0_14 z2 (fun _ _ h => c_X10_step hG  h0 h) hf (fun x28 M H locs hP hS hf => ?_)
    refine lv_aload_n hx hb dX10_part0_17 rfl (lv_at hl 0 rfl) ?_
    refine lv_dup hx hb dX10_part0_18 rfl ?_
    refine gf_X10_234 S hK hP h0 dX10_part0_19 hf (fun x29 hf => ?_)
    refine lv_iconst (v := 1) hx hb dX10_part0_22 (by decide) ?_
    refine lv_iadd hx hb dX10_part0_23 ?_
    refine pf_X10_234 S hK hG hP hS h0 dX10_part0_24 hf (fun M H locs hP hS hf => ?_)
    refine lv_aload_n hx hb dX10_part0_27 rfl (lv_at hl 0 rfl) ?_
    refine r_callVv (As := []) (rest := []) S hK hE hst hP hS h0 (by decide) rfl (cw_X10_203 ht ⟨rdf (Nat.le_of_ble_eq_true rfl), rdl (Nat.le_of_ble_eq_true rfl)⟩) rfl hl.1 rfl (Nat.le_of_ble_eq_true rfl) dX10_part0_28 z2 (fun _ _ h => c_X10_goesOn hG  h0 h) hf (fun x30 M H locs hP hS hf => ?_)
    refine lv_iconst (v := 1) hx hb dX10_part0_31 (by decide) ?_
    exact hret _ _ _ _ _ _ dX10_part0_32 hP hS rfl hf
def GP_ei : Nat → (Nat → Int32 → Mem → Option (Int32 × Mem)) × (Nat → Int32 → Mem → Option (Int32 × Mem)) × (Nat → Int32 → Mem → Option (Int32 × Mem)) × (Nat → Int32 → Mem → Option (Int32 × Mem)) × (Nat → Int32 → Mem → Option (Int32 × Mem)) × (Nat → Int32 → Mem → Option (Int32 × Mem))
  | 0 => (fun _ _ _ => none, fun _ _ _ => none, fun _ _ _ => none, fun _ _ _ => none, fun _ _ _ => none, fun _ _ _ => none)
  | d + 1 => (F_X10_either ((GP_ei d).1) ((GP_ei d).2.1) ((GP_ei d).2.2.1) ((GP_ei d).2.2.2.1) ((GP_ei d).2.2.2.2.1) ((GP_ei d).2.2.2.2.2), F_X10_both ((GP_ei d).1) ((GP_ei d).2.1) ((GP_ei d).2.2.1) ((GP_ei d).2.2.2.1) ((GP_ei d).2.2.2.2.1) ((GP_ei d).2.2.2.2.2), F_X10_test ((GP_ei d).1) ((GP_ei d).2.1) ((GP_ei d).2.2.1) ((GP_ei d).2.2.2.1) ((GP_ei d).2.2.2.2.1) ((GP_ei d).2.2.2.2.2), F_X10_sum ((GP_ei d).1) ((GP_ei d).2.1) ((GP_ei d).2.2.1) ((GP_ei d).2.2.2.1) ((GP_ei d).2.2.2.2.1) ((GP_ei d).2.2.2.2.2), F_X10_term ((GP_ei d).1) ((GP_ei d).2.1) ((GP_ei d).2.2.1) ((GP_ei d).2.2.2.1) ((GP_ei d).2.2.2.2.1) ((GP_ei d).2.2.2.2.2), F_X10_part0 ((GP_ei d).1) ((GP_ei d).2.1) ((GP_ei d).2.2.1) ((GP_ei d).2.2.2.1) ((GP_ei d).2.2.2.2.1) ((GP_ei d).2.2.2.2.2))
theorem cg_ei {l : Launch} {D : va_G} {K : Ks} {ad : Nat → Nat} {A : Nat → Prop} (hG : Gok G2 ad A) : ∀ d : Nat, (∀ (o : Nat) (p1 : Int32), gcl G2 o = 10 → ∀ {M : Mem} {r : Int32} {M' : Mem}, (GP_ei d).1 o p1 M = some (r, M') → Ct l E2 D K G2 ad A yX10_either (ws_of yX10_either cX10_either 2 (some .boolean)) (rmD 12 400 d) .boolean [.ref (ad o), .int p1] M r M') ∧ (∀ (o : Nat) (p1 : Int32), gcl G2 o = 10 → ∀ {M : Mem} {r : Int32} {M' : Mem}, (GP_ei d).2.1 o p1 M = some (r, M') → Ct l E2 D K G2 ad A yX10_both (ws_of yX10_both cX10_both 2 (some .boolean)) (rmD 12 400 d) .boolean [.ref (ad o), .int p1] M r M') ∧ (∀ (o : Nat) (p1 : Int32), gcl G2 o = 10 → ∀ {M : Mem} {r : Int32} {M' : Mem}, (GP_ei d).2.2.1 o p1 M = some (r, M') → Ct l E2 D K G2 ad A yX10_test (ws_of yX10_test cX10_test 3 (some .boolean)) (rmD 12 400 d) .boolean [.ref (ad o), .int p1] M r M') ∧ (∀ (o : Nat) (p1 : Int32), gcl G2 o = 10 → ∀ {M : Mem} {r : Int32} {M' : Mem}, (GP_ei d).2.2.2.1 o p1 M = some (r, M') → Ct l E2 D K G2 ad A yX10_sum (ws_of yX10_sum cX10_sum 3 (some .boolean)) (rmD 12 400 d) .boolean [.ref (ad o), .int p1] M r M') ∧ (∀ (o : Nat) (p1 : Int32), gcl G2 o = 10 → ∀ {M : Mem} {r : Int32} {M' : Mem}, (GP_ei d).2.2.2.2.1 o p1 M = some (r, M') → Ct l E2 D K G2 ad A yX10_term (ws_of yX10_term cX10_term 3 (some .boolean)) (rmD 12 400 d) .boolean [.ref (ad o), .int p1] M r M') ∧ (∀ (o : Nat) (p1 : Int32), gcl G2 o = 10 → ∀ {M : Mem} {r : Int32} {M' : Mem}, (GP_ei d).2.2.2.2.2 o p1 M = some (r, M') → Ct l E2 D K G2 ad A yX10_part0 (ws_of yX10_part0 cX10_part0 2 (some .boolean)) (rmD 12 400 d) .boolean [.ref (ad o), .int p1] M r M') := by
  intro d
  induction d with
  | zero => exact ⟨(by intros; next hf => exact nomatch hf), (by intros; next hf => exact nomatch hf), (by intros; next hf => exact nomatch hf), (by intros; next hf => exact nomatch hf), (by intros; next hf => exact nomatch hf), (by intros; next hf => exact nomatch hf)⟩
  | succ d ih => exact ⟨(by intro o p1 h0 M r M' hf; exact co_X10_either hG (ih.1) (ih.2.1) (ih.2.2.1) (ih.2.2.2.1) (ih.2.2.2.2.1) (ih.2.2.2.2.2) h0 hf), (by intro o p1 h0 M r M' hf; exact co_X10_both hG (ih.1) (ih.2.1) (ih.2.2.1) (ih.2.2.2.1) (ih.2.2.2.2.1) (ih.2.2.2.2.2) h0 hf), (by intro o p1 h0 M r M' hf; exact co_X10_test hG (ih.1) (ih.2.1) (ih.2.2.1) (ih.2.2.2.1) (ih.2.2.2.2.1) (ih.2.2.2.2.2) h0 hf), (by intro o p1 h0 M r M' hf; exact co_X10_sum hG (ih.1) (ih.2.1) (ih.2.2.1) (ih.2.2.2.1) (ih.2.2.2.2.1) (ih.2.2.2.2.2) h0 hf), (by intro o p1 h0 M r M' hf; exact co_X10_term hG (ih.1) (ih.2.1) (ih.2.2.1) (ih.2.2.2.1) (ih.2.2.2.2.1) (ih.2.2.2.2.2) h0 hf), (by intro o p1 h0 M r M' hf; exact co_X10_part0 hG (ih.1) (ih.2.1) (ih.2.2.1) (ih.2.2.2.1) (ih.2.2.2.2.1) (ih.2.2.2.2.2) h0 hf)⟩
def f_X10_either (o : Nat) (p1 : Int32) (M : Mem) : Option (Int32 × Mem) := (GP_ei 100).1 o p1 M
def rm_X10_either : Room := { frames := 112, cells := 0, slots := 0, locals := 8400 }
theorem c_X10_either {l : Launch} {D : va_G} {K : Ks} {ad : Nat → Nat} {A : Nat → Prop} (hG : Gok G2 ad A) {o : Nat} {p1 : Int32} (h0 : gcl G2 o = 10) {M : Mem} {r : Int32} {M' : Mem} (hf : f_X10_either o p1 M = some (r, M')) : Ct l E2 D K G2 ad A yX10_either (ws_of yX10_either cX10_either 2 (some .boolean)) rm_X10_either .boolean [.ref (ad o), .int p1] M r M' := (cg_ei hG 100).1 o p1 h0 hf
def f_X10_both (o : Nat) (p1 : Int32) (M : Mem) : Option (Int32 × Mem) := (GP_ei 100).2.1 o p1 M
def rm_X10_both : Room := { frames := 112, cells := 0, slots := 0, locals := 8400 }
theorem c_X10_both {l : Launch} {D : va_G} {K : Ks} {ad : Nat → Nat} {A : Nat → Prop} (hG : Gok G2 ad A) {o : Nat} {p1 : Int32} (h0 : gcl G2 o = 10) {M : Mem} {r : Int32} {M' : Mem} (hf : f_X10_both o p1 M = some (r, M')) : Ct l E2 D K G2 ad A yX10_both (ws_of yX10_both cX10_both 2 (some .boolean)) rm_X10_both .boolean [.ref (ad o), .int p1] M r M' := (cg_ei hG 100).2.1 o p1 h0 hf
def f_X10_test (o : Nat) (p1 : Int32) (M : Mem) : Option (Int32 × Mem) := (GP_ei 100).2.2.1 o p1 M
def rm_X10_test : Room := { frames := 112, cells := 0, slots := 0, locals := 8400 }
theorem c_X10_test {l : Launch} {D : va_G} {K : Ks} {ad : Nat → Nat} {A : Nat → Prop} (hG : Gok G2 ad A) {o : Nat} {p1 : Int32} (h0 : gcl G2 o = 10) {M : Mem} {r : Int32} {M' : Mem} (hf : f_X10_test o p1 M = some (r, M')) : Ct l E2 D K G2 ad A yX10_test (ws_of yX10_test cX10_test 3 (some .boolean)) rm_X10_test .boolean [.ref (ad o), .int p1] M r M' := (cg_ei hG 100).2.2.1 o p1 h0 hf
def f_X10_sum (o : Nat) (p1 : Int32) (M : Mem) : Option (Int32 × Mem) := (GP_ei 100).2.2.2.1 o p1 M
def rm_X10_sum : Room := { frames := 112, cells := 0, slots := 0, locals := 8400 }
theorem c_X10_sum {l : Launch} {D : va_G} {K : Ks} {ad : Nat → Nat} {A : Nat → Prop} (hG : Gok G2 ad A) {o : Nat} {p1 : Int32} (h0 : gcl G2 o = 10) {M : Mem} {r : Int32} {M' : Mem} (hf : f_X10_sum o p1 M = some (r, M')) : Ct l E2 D K G2 ad A yX10_sum (ws_of yX10_sum cX10_sum 3 (some .boolean)) rm_X10_sum .boolean [.ref (ad o), .int p1] M r M' := (cg_ei hG 100).2.2.2.1 o p1 h0 hf
def f_X10_term (o : Nat) (p1 : Int32) (M : Mem) : Option (Int32 × Mem) := (GP_ei 100).2.2.2.2.1 o p1 M
def rm_X10_term : Room := { frames := 112, cells := 0, slots := 0, locals := 8400 }
theorem c_X10_term {l : Launch} {D : va_G} {K : Ks} {ad : Nat → Nat} {A : Nat → Prop} (hG : Gok G2 ad A) {o : Nat} {p1 : Int32} (h0 : gcl G2 o = 10) {M : Mem} {r : Int32} {M' : Mem} (hf : f_X10_term o p1 M = some (r, M')) : Ct l E2 D K G2 ad A yX10_term (ws_of yX10_term cX10_term 3 (some .boolean)) rm_X10_term .boolean [.ref (ad o), .int p1] M r M' := (cg_ei hG 100).2.2.2.2.1 o p1 h0 hf
def f_X10_part0 (o : Nat) (p1 : Int32) (M : Mem) : Option (Int32 × Mem) := (GP_ei 100).2.2.2.2.2 o p1 M
def rm_X10_part0 : Room := { frames := 112, cells := 0, slots := 0, locals := 8400 }
theorem c_X10_part0 {l : Launch} {D : va_G} {K : Ks} {ad : Nat → Nat} {A : Nat → Prop} (hG : Gok G2 ad A) {o : Nat} {p1 : Int32} (h0 : gcl G2 o = 10) {M : Mem} {r : Int32} {M' : Mem} (hf : f_X10_part0 o p1 M = some (r, M')) : Ct l E2 D K G2 ad A yX10_part0 (ws_of yX10_part0 cX10_part0 2 (some .boolean)) rm_X10_part0 .boolean [.ref (ad o), .int p1] M r M' := (cg_ei hG 100).2.2.2.2.2 o p1 h0 hf
