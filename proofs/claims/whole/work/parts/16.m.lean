theorem cw_X10_246 {R : Room} {s : State} {args : Array Value} (ht : ∀ w ∈ Tw, w.before args s = true) (hR : rm_X10_either.frames + 1 ≤ R.frames ∧ 8 + (2 + 11) + rm_X10_either.locals ≤ R.locals) : CallW R s args RX10 RX10 246 yX10_either cX10_either 2 (some .boolean) (ws_of yX10_either cX10_either 2 (some .boolean)) rm_X10_either 0 0 1 := cw_V 1 ht k_1383 k_1385 k_40 k_73 k_1386 (by decide +kernel) rfl rfl hR
theorem cw_X10_249 {R : Room} {s : State} {args : Array Value} (ht : ∀ w ∈ Tw, w.before args s = true) (hR : rm_X10_key.frames + 1 ≤ R.frames ∧ 8 + (1 + 11) + rm_X10_key.locals ≤ R.locals) : CallW R s args RX10 RX10 249 yX10_key cX10_key 1 (some .int) (ws_of yX10_key cX10_key 1 (some .int)) rm_X10_key 0 0 0 := cw_V 0 ht k_1367 k_1369 k_36 k_73 k_1370 (by decide +kernel) rfl rfl hR
section
variable {p : Program} {l : Launch} {e : Env} {R : Room} {s : State} {m : MethodId} {args : Array Value} {below : List Frame} {meth : Method} {c : Code} {H : Heap} {locs : List Loc} {cells slots : Nat} {Q : State → Prop} {cc : ByteArray} {pc : Nat} {ls : Array Slot} {rest : List Value} {nL : Nat} {D : va_G} {K : Ks} {ad : Nat → Nat} {A : Nat → Prop} {M : Mem} {β : Type} {z : β}
theorem pf_X10_206 (S : CallFix p m c cc nL s args Tw RX10) (hK : va_K D classes (gty K) s) (hG : Gok G2 ad A) (hP : va_P D classes (gws K G2 ad M) H) (hS : va_S A s.heap H locs) {a : Nat} {v : Int32} {kk : Mem → Option β} (ha : gcl G2 a = 10) (hdg : decode cc pc = .ok (.putfield 206, 3)) (hf : mm (up M a 22 v) kk = some z) (w : ∀ M H locs, va_P D classes (gws K G2 ad M) H → va_S A s.heap H locs → kk M = some z → W p l e R s m args below meth c H locs cells slots Q (F0 m (pc + 3) ls rest)) : W p l e R s m args below meth c H locs cells slots Q (F0 m pc ls (.int v :: .ref (ad a) :: rest)) := r_putt S hK hG hP hS (k := 22) (T := TX10) inX10 rfl (by decide) tyX10 tyX10_ok nmX10 (by decide) rfl rfl rfl ha (sf_X10_22 ha) k_1128 hdg hf w
end
def f_X10_parse (o : Nat) (M : Mem) : Option (Int32 × Mem) :=
  mm (up M o 15 0) fun M =>
  mm (up M o 16 3) fun M =>
  mm (up M o 19 0) fun M =>
  mm (up M o 20 0) fun M =>
  mm (up M o 21 0) fun M =>
  mm (up M o 23 0) fun M =>
  vv (grf G2 o 0) fun x1 =>
  ld M x1 2 3510 fun x2 =>
  jn (fun (v3 : Int32) (M : Mem) =>
    mm (up M o 22 v3) fun M =>
    bd (f_X10_goesOn o M) fun _ M =>
    bd (f_X10_key o M) fun x6 M =>
    jn (fun (v7 : Int32) (M : Mem) =>
      jn (fun (v9 : Int32) (M : Mem) =>
        mm (up M o 13 0) fun M =>
        if v9 = 0 then
          some ((-1), M)
        else
          some (x6, M)
      ) fun k10 =>
      if v7 = 0 then
        k10 v7 M
      else
        bd (f_X10_goesOn o M) fun _ M =>
        bd (f_X10_either o x6 M) fun x12 M =>
        if x12 = 0 then
          k10 0 M
        else
          vv (M o 16) fun x13 =>
          if x13 = 0 then
            k10 1 M
          else
            k10 0 M
    ) fun k8 =>
    if x6 < 0 then
      k8 0 M
    else
      k8 1 M
  ) fun k4 =>
  if x2 < 14 then
    vv (grf G2 o 0) fun x14 =>
    ld M x14 2 3510 fun x15 =>
    bd (f_X10_textAt o x15 M) fun x16 M =>
    k4 (x16 + 4) M
  else
    k4 3310 M
def rm_X10_parse : Room := { frames := 113, cells := 0, slots := 0, locals := 8421 }
set_option maxHeartbeats 4000000 in
set_option maxRecDepth 100000 in
theorem c_X10_parse {l : Launch} {D : va_G} {K : Ks} {ad : Nat → Nat} {A : Nat → Prop} (hG : Gok G2 ad A) {o : Nat} (h0 : gcl G2 o = 10) {M : Mem} {r : Int32} {M' : Mem} (hf : f_X10_parse o M = some (r, M')) : Ct l E2 D K G2 ad A yX10_parse (ws_of yX10_parse cX10_parse 3 (some .int)) rm_X10_parse .int [.ref (ad o)] M r M' := by
  have hst : Est A E2 := est2
  refine Ct.ofW (by decide) (Nat.le_of_ble_eq_true rfl) ?_
  intro p e s m args below meth c Q H locs ls S hK hE hP hS hl hret
  have hx := S.1
  have hb := S.2.1
  have hown := S.2.2.2.1
  have ht := S.2.2.2.2
  have hl : lv_has ls 3 [(0, .ref (ad o))] := hl
  unfold f_X10_parse at hf
  refine lv_aload_n hx hb dX10_parse_0 rfl (lv_at hl 0 rfl) ?_
  refine lv_iconst (v := 0) hx hb dX10_parse_1 (by decide) ?_
  refine pf_X10_170 S hK hG hP hS h0 dX10_parse_2 hf (fun M H locs hP hS hf => ?_)
  refine lv_aload_n hx hb dX10_parse_5 rfl (lv_at hl 0 rfl) ?_
  refine lv_iconst (v := 3) hx hb dX10_parse_6 (by decide) ?_
  refine pf_X10_173 S hK hG hP hS h0 dX10_parse_7 hf (fun M H locs hP hS hf => ?_)
  refine lv_aload_n hx hb dX10_parse_10 rfl (lv_at hl 0 rfl) ?_
  refine lv_iconst (v := 0) hx hb dX10_parse_11 (by decide) ?_
  refine pf_X10_243 S hK hG hP hS h0 dX10_parse_12 hf (fun M H locs hP hS hf => ?_)
  refine lv_aload_n hx hb dX10_parse_15 rfl (lv_at hl 0 rfl) ?_
  refine lv_iconst (v := 0) hx hb dX10_parse_16 (by decide) ?_
  refine pf_X10_240 S hK hG hP hS h0 dX10_parse_17 hf (fun M H locs hP hS hf => ?_)
  refine lv_aload_n hx hb dX10_parse_20 rfl (lv_at hl 0 rfl) ?_
  refine lv_iconst (v := 0) hx hb dX10_parse_21 (by decide) ?_
  refine pf_X10_209 S hK hG hP hS h0 dX10_parse_22 hf (fun M H locs hP hS hf => ?_)
  refine lv_aload_n hx hb dX10_parse_25 rfl (lv_at hl 0 rfl) ?_
  refine lv_iconst (v := 0) hx hb dX10_parse_26 (by decide) ?_
  refine pf_X10_234 S hK hG hP hS h0 dX10_parse_27 hf (fun M H locs hP hS hf => ?_)
  refine lv_aload_n hx hb dX10_parse_30 rfl (lv_at hl 0 rfl) ?_
  refine lv_aload_n hx hb dX10_parse_31 rfl (lv_at hl 0 rfl) ?_
  refine gf_X10_7 S hK hP h0 dX10_parse_32 hf (fun x1 hx1 hf => ?_)
  refine lv_iconst (v := 2) hx hb dX10_parse_35 (by decide) ?_
  refine r_iald S hK hP hx1 dX10_parse_36 hf (fun x2 hf => ?_)
  refine lv_bipush (v := 14) hx hb dX10_parse_37 (by decide) ?_
  obtain ⟨k4, hk4, hf⟩ := jn_w hf
  have J4 : ∀ (v3 : Int32) (M : Mem) (H : Heap) (locs : List Loc) (ls : Array Slot), lv_has ls 3 [(0, .ref (ad o))] → va_P D classes (gws K G2 ad M) H → va_S A s.heap H locs → k4 v3 M = some (r, M') → W p l e rm_X10_parse s m args below meth c H locs 0 0 Q (F0 m 60 ls [.int v3, .ref (ad o)]) := by
    intro v3 M H locs ls hl hP hS hf
    rw [hk4] at hf
    refine pf_X10_206 S hK hG hP hS h0 dX10_parse_60 hf (fun M H locs hP hS hf => ?_)
    refine lv_aload_n hx hb dX10_parse_63 rfl (lv_at hl 0 rfl) ?_
    refine r_callVv (As := []) (rest := []) S hK hE hst hP hS h0 (by decide) rfl (cw_X10_203 ht ⟨Nat.le_of_ble_eq_true rfl, Nat.le_of_ble_eq_true rfl⟩) rfl hl.1 rfl (Nat.le_of_ble_eq_true rfl) dX10_parse_64 z2 (fun _ _ h => c_X10_goesOn hG  h0 h) hf (fun x5 M H locs hP hS hf => ?_)
    refine lv_aload_n hx hb dX10_parse_67 rfl (lv_at hl 0 rfl) ?_
    refine r_callV (As := []) (rest := []) S hK hE hst hP hS h0 (by decide) rfl (cw_X10_249 ht ⟨Nat.le_of_ble_eq_true rfl, Nat.le_of_ble_eq_true rfl⟩) rfl hl.1 rfl (Nat.le_of_ble_eq_true rfl) dX10_parse_68 z2 (fun _ _ h => c_X10_key hG  h0 h) hf (fun x6 M H locs hP hS bx6 hf => ?_)
    refine lv_istore_n (lv' := [(1, .int x6), (0, .ref (ad o))]) hx hb dX10_parse_71 rfl hl (by decide) rfl (fun ls hl => ?_)
    refine lv_iload_n hx hb dX10_parse_72 rfl (lv_at hl 0 rfl) ?_
    obtain ⟨k8, hk8, hf⟩ := jn_w hf
    have J8 : ∀ (v7 : Int32) (M : Mem) (H : Heap) (locs : List Loc) (ls : Array Slot), lv_has ls 3 [(0, .ref (ad o)), (1, .int x6)] → va_P D classes (gws K G2 ad M) H → va_S A s.heap H locs → k8 v7 M = some (r, M') → W p l e rm_X10_parse s m args below meth c H locs 0 0 Q (F0 m 81 ls [.int v7]) := by
      intro v7 M H locs ls hl hP hS hf
      rw [hk8] at hf
      refine lv_istore_n (lv' := [(2, .int v7), (0, .ref (ad o)), (1, .int x6)]) hx hb dX10_parse_81 rfl hl (by decide) rfl (fun ls hl => ?_)
      refine lv_iload_n hx hb dX10_parse_82 rfl (lv_at hl 0 rfl) ?_
      obtain ⟨k10, hk10, hf⟩ := jn_w hf
      have J10 : ∀ (v9 : Int32) (M : Mem) (H : Heap) (locs : List Loc) (ls : Array Slot), lv_has ls 3 [(0, .ref (ad o)), (1, .int x6), (2, .int v9)] → va_P D classes (gws K G2 ad M) H → va_S A s.heap H locs → k10 v9 M = some (r, M') → W p l e rm_X10_parse s m args below meth c H locs 0 0 Q (F0 m 111 ls []) := by
        intro v9 M H locs ls hl hP hS hf
        rw [hk10] at hf
        refine lv_aload_n hx hb dX10_parse_111 rfl (lv_at hl 0 rfl) ?_
        refine lv_iconst (v := 0) hx hb dX10_parse_112 (by decide) ?_
        refine pf_X10_158 S hK hG hP hS h0 dX10_parse_113 hf (fun M H locs hP hS hf => ?_)
        refine lv_iload_n hx hb dX10_parse_116 rfl (lv_at hl 2 rfl) ?_
        refine r_if_eq (tgt := 124) S dX10_parse_117 (by decide) hf (fun hf => ?_) (fun hf => ?_)
        · refine lv_iconst (v := (-1)) hx hb dX10_parse_124 (by decide) ?_
          exact hret _ _ _ _ _ _ dX10_parse_125 hP hS rfl hf
        · refine lv_iload_n hx hb dX10_parse_120 rfl (lv_at hl 1 rfl) ?_
          refine lv_goto (tgt := 125) hx hb dX10_parse_121 (by decide) ?_
          exact hret _ _ _ _ _ _ dX10_parse_125 hP hS rfl hf
      refine r_if_eq (tgt := 111) S dX10_parse_83 (by decide) hf (fun hf => ?_) (fun hf => ?_)
      · exact J10 v7 M H locs ls (lv_sub hl [1, 2, 0] rfl) hP hS hf
      · refine lv_aload_n hx hb dX10_parse_86 rfl (lv_at hl 1 rfl) ?_
        refine r_callVv (As := []) (rest := []) S hK hE hst hP hS h0 (by decide) rfl (cw_X10_203 ht ⟨Nat.le_of_ble_eq_true rfl, Nat.le_of_ble_eq_true rfl⟩) rfl hl.1 rfl (Nat.le_of_ble_eq_true rfl) dX10_parse_87 z2 (fun _ _ h => c_X10_goesOn hG  h0 h) hf (fun x11 M H locs hP hS hf => ?_)
        refine lv_aload_n hx hb dX10_parse_90 rfl (lv_at hl 1 rfl) ?_
        refine lv_iload_n hx hb dX10_parse_91 rfl (lv_at hl 2 rfl) ?_
        refine r_callV (As := [.int x6]) (rest := []) S hK hE hst hP hS h0 (by decide) rfl (cw_X10_246 ht ⟨Nat.le_of_ble_eq_true rfl, Nat.le_of_ble_eq_true rfl⟩) rfl hl.1 rfl (Nat.le_of_ble_eq_true rfl) dX10_parse_92 z2 (fun _ _ h => c_X10_either hG  h0 h) hf (fun x12 M H locs hP hS bx12 hf => ?_)
        refine r_if_eq (tgt := 109) S dX10_parse_95 (by decide) hf (fun hf => ?_) (fun hf => ?_)
        · refine lv_iconst (v := 0) hx hb dX10_parse_109 (by decide) ?_
          refine lv_istore_n (lv' := [(2, .int 0), (0, .ref (ad o)), (1, .int x6)]) hx hb dX10_parse_110 rfl hl (by decide) rfl (fun ls hl => ?_)
          exact J10 0 M H locs ls (lv_sub hl [1, 2, 0] rfl) hP hS hf
        · refine lv_aload_n hx hb dX10_parse_98 rfl (lv_at hl 1 rfl) ?_
          refine gf_X10_173 S hK hP h0 dX10_parse_99 hf (fun x13 hf => ?_)
          refine r_if_ne (tgt := 109) S dX10_parse_102 (by decide) hf (fun hf => ?_) (fun hf => ?_)
          · refine lv_iconst (v := 0) hx hb dX10_parse_109 (by decide) ?_
            refine lv_istore_n (lv' := [(2, .int 0), (0, .ref (ad o)), (1, .int x6)]) hx hb dX10_parse_110 rfl hl (by decide) rfl (fun ls hl => ?_)
            exact J10 0 M H locs ls (lv_sub hl [1, 2, 0] rfl) hP hS hf
          · refine lv_iconst (v := 1) hx hb dX10_parse_105 (by decide) ?_
            refine lv_goto (tgt := 110) hx hb dX10_parse_106 (by decide) ?_
            refine lv_istore_n (lv' := [(2, .int 1), (0, .ref (ad o)), (1, .int x6)]) hx hb dX10_parse_110 rfl hl (by decide) rfl (fun ls hl => ?_)
            exact J10 1 M H locs ls (lv_sub hl [1, 2, 0] rfl) hP hS hf
    refine r_if_lt (tgt := 80) S dX10_parse_73 (by decide) hf (fun hf => ?_) (fun hf => ?_)
    · refine lv_iconst (v := 0) hx hb dX10_parse_80 (by decide) ?_
      exact J8 0 M H locs ls (lv_sub hl [1, 0] rfl) hP hS hf
    · refine lv_iconst (v := 1) hx hb dX10_parse_76 (by decide) ?_
      refine lv_goto (tgt := 81) hx hb dX10_parse_77 (by decide) ?_
      exact J8 1 M H locs ls (lv_sub hl [1, 0] rfl) hP hS hf
  refine r_icmp_ge (tgt := 57) S dX10_parse_39 (by decide) hf (fun hf => ?_) (fun hf => ?_)
  · refine lv_sipush (v := 3310) hx hb dX10_parse_57 (by decide) ?_
    exact J4 3310 M H locs ls (lv_sub hl [0] rfl) hP hS hf
  · refine lv_aload_n hx hb dX10_parse_42 rfl (lv_at hl 0 rfl) ?_
    refine lv_aload_n hx hb dX10_parse_43 rfl (lv_at hl 0 rfl) ?_
    refine gf_X10_7 S hK hP h0 dX10_parse_44 hf (fun x14 hx14 hf => ?_)
    refine lv_iconst (v := 2) hx hb dX10_parse_47 (by decide) ?_
    refine r_iald S hK hP hx14 dX10_parse_48 hf (fun x15 hf => ?_)
    refine r_callV (As := [.int x15]) (rest := [.ref (ad o)]) S hK hE hst hP hS h0 (by decide) rfl (cw_X10_109 ht ⟨Nat.le_of_ble_eq_true rfl, Nat.le_of_ble_eq_true rfl⟩) rfl hl.1 rfl (Nat.le_of_ble_eq_true rfl) dX10_parse_49 z2 (fun _ _ h => c_X10_textAt hG  h0 h) hf (fun x16 M H locs hP hS bx16 hf => ?_)
    refine lv_iconst (v := 4) hx hb dX10_parse_52 (by decide) ?_
    refine lv_iadd hx hb dX10_parse_53 ?_
    refine lv_goto (tgt := 60) hx hb dX10_parse_54 (by decide) ?_
    exact J4 (x16 + 4) M H locs ls (lv_sub hl [0] rfl) hP hS hf
theorem cw_X10_253 {R : Room} {s : State} {args : Array Value} (ht : ∀ w ∈ Tw, w.before args s = true) (hR : rm_X10_parse.frames + 1 ≤ R.frames ∧ 8 + (3 + 11) + rm_X10_parse.locals ≤ R.locals) : CallW R s args RX10 RX10 253 yX10_parse cX10_parse 3 (some .int) (ws_of yX10_parse cX10_parse 3 (some .int)) rm_X10_parse 0 0 0 := cw_V 0 ht k_1347 k_1349 k_32 k_73 k_1350 (by decide +kernel) rfl rfl hR
def f_X10_text (o : Nat) (M : Mem) : Option (Int32 × Mem) :=
  bd (f_X10_parse o M) fun x1 M =>
  if x1 < 0 then
    vv (M o 14) fun x16 =>
    some (((-100) - x16), M)
  else
    vv (grf G2 o 0) fun x2 =>
    ld M x2 2 3510 fun x3 =>
    if x3 = 14 then
      some ((-1000000003), M)
    else
      vv (grf G2 o 0) fun x4 =>
      ld M x4 2 3510 fun x5 =>
      bd (f_X10_textAt o x5 M) fun x6 M =>
      vv (grf G2 o 0) fun x7 =>
      st M x7 (x6 + 0) 3510 x1 fun M =>
      vv (grf G2 o 0) fun x8 =>
      vv (M o 23) fun x9 =>
      st M x8 (x6 + 1) 3510 x9 fun M =>
      vv (grf G2 o 0) fun x10 =>
      vv (M o 21) fun x11 =>
      st M x10 (x6 + 2) 3510 x11 fun M =>
      vv (grf G2 o 0) fun x12 =>
      ld M x12 2 3510 fun x13 =>
      st M x12 2 3510 (x13 + 1) fun M =>
      vv (grf G2 o 0) fun x14 =>
      ld M x14 2 3510 fun x15 =>
      some ((x15 - 1), M)
def rm_X10_text : Room := { frames := 114, cells := 0, slots := 0, locals := 8443 }
set_option maxHeartbeats 4000000 in
set_option maxRecDepth 100000 in
theorem c_X10_text {l : Launch} {D : va_G} {K : Ks} {ad : Nat → Nat} {A : Nat → Prop} (hG : Gok G2 ad A) {o : Nat} (h0 : gcl G2 o = 10) {M : Mem} {r : Int32} {M' : Mem} (hf : f_X10_text o M = some (r, M')) : Ct l E2 D K G2 ad A yX10_text (ws_of yX10_text cX10_text 3 (some .int)) rm_X10_text .int [.ref (ad o)] M r M' := by
  have hst : Est A E2 := est2
  refine Ct.ofW (by decide) (Nat.le_of_ble_eq_true rfl) ?_
  intro p e s m args below meth c Q H locs ls S hK hE hP hS hl hret
  have hx := S.1
  have hb := S.2.1
  have hown := S.2.2.2.1
  have ht := S.2.2.2.2
  have hl : lv_has ls 3 [(0, .ref (ad o))] := hl
  unfold f_X10_text at hf
  refine lv_aload_n hx hb dX10_text_0 rfl (lv_at hl 0 rfl) ?_
  refine r_callV (As := []) (rest := []) S hK hE hst hP hS h0 (by decide) rfl (cw_X10_253 ht ⟨Nat.le_of_ble_eq_true rfl, Nat.le_of_ble_eq_true rfl⟩) rfl hl.1 rfl (Nat.le_of_ble_eq_true rfl) dX10_text_1 z2 (fun _ _ h => c_X10_parse hG  h0 h) hf (fun x1 M H locs hP hS bx1 hf => ?_)
  refine lv_istore_n (lv' := [(1, .int x1), (0, .ref (ad o))]) hx hb dX10_text_4 rfl hl (by decide) rfl (fun ls hl => ?_)
  refine lv_iload_n hx hb dX10_text_5 rfl (lv_at hl 0 rfl) ?_
  refine r_if_ge (tgt := 17) S dX10_text_6 (by decide) hf (fun hf => ?_) (fun hf => ?_)
  · refine lv_aload_n hx hb dX10_text_17 rfl (lv_at hl 1 rfl) ?_
    refine gf_X10_7 S hK hP h0 dX10_text_18 hf (fun x2 hx2 hf => ?_)
    refine lv_iconst (v := 2) hx hb dX10_text_21 (by decide) ?_
    refine r_iald S hK hP hx2 dX10_text_22 hf (fun x3 hf => ?_)
    refine lv_bipush (v := 14) hx hb dX10_text_23 (by decide) ?_
    refine r_icmp_ne (tgt := 31) S dX10_text_25 (by decide) hf (fun hf => ?_) (fun hf => ?_)
    · refine lv_aload_n hx hb dX10_text_31 rfl (lv_at hl 1 rfl) ?_
      refine lv_aload_n hx hb dX10_text_32 rfl (lv_at hl 1 rfl) ?_
      refine gf_X10_7 S hK hP h0 dX10_text_33 hf (fun x4 hx4 hf => ?_)
      refine lv_iconst (v := 2) hx hb dX10_text_36 (by decide) ?_
      refine r_iald S hK hP hx4 dX10_text_37 hf (fun x5 hf => ?_)
      refine r_callV (As := [.int x5]) (rest := []) S hK hE hst hP hS h0 (by decide) rfl (cw_X10_109 ht ⟨Nat.le_of_ble_eq_true rfl, Nat.le_of_ble_eq_true rfl⟩) rfl hl.1 rfl (Nat.le_of_ble_eq_true rfl) dX10_text_38 z2 (fun _ _ h => c_X10_textAt hG  h0 h) hf (fun x6 M H locs hP hS bx6 hf => ?_)
      refine lv_istore_n (lv' := [(2, .int x6), (1, .int x1), (0, .ref (ad o))]) hx hb dX10_text_41 rfl hl (by decide) rfl (fun ls hl => ?_)
      refine lv_aload_n hx hb dX10_text_42 rfl (lv_at hl 2 rfl) ?_
      refine gf_X10_7 S hK hP h0 dX10_text_43 hf (fun x7 hx7 hf => ?_)
      refine lv_iload_n hx hb dX10_text_46 rfl (lv_at hl 0 rfl) ?_
      refine lv_iconst (v := 0) hx hb dX10_text_47 (by decide) ?_
      refine lv_iadd hx hb dX10_text_48 ?_
      refine lv_iload_n hx hb dX10_text_49 rfl (lv_at hl 1 rfl) ?_
      refine r_iast S hK hG hP hS hx7 dX10_text_50 hf (fun M H locs hP hS hf => ?_)
      refine lv_aload_n hx hb dX10_text_51 rfl (lv_at hl 2 rfl) ?_
      refine gf_X10_7 S hK hP h0 dX10_text_52 hf (fun x8 hx8 hf => ?_)
      refine lv_iload_n hx hb dX10_text_55 rfl (lv_at hl 0 rfl) ?_
      refine lv_iconst (v := 1) hx hb dX10_text_56 (by decide) ?_
      refine lv_iadd hx hb dX10_text_57 ?_
      refine lv_aload_n hx hb dX10_text_58 rfl (lv_at hl 2 rfl) ?_
      refine gf_X10_234 S hK hP h0 dX10_text_59 hf (fun x9 hf => ?_)
      refine r_iast S hK hG hP hS hx8 dX10_text_62 hf (fun M H locs hP hS hf => ?_)
      refine lv_aload_n hx hb dX10_text_63 rfl (lv_at hl 2 rfl) ?_
      refine gf_X10_7 S hK hP h0 dX10_text_64 hf (fun x10 hx10 hf => ?_)
      refine lv_iload_n hx hb dX10_text_67 rfl (lv_at hl 0 rfl) ?_
      refine lv_iconst (v := 2) hx hb dX10_text_68 (by decide) ?_
      refine lv_iadd hx hb dX10_text_69 ?_
      refine lv_aload_n hx hb dX10_text_70 rfl (lv_at hl 2 rfl) ?_
      refine gf_X10_209 S hK hP h0 dX10_text_71 hf (fun x11 hf => ?_)
      refine r_iast S hK hG hP hS hx10 dX10_text_74 hf (fun M H locs hP hS hf => ?_)
      refine lv_aload_n hx hb dX10_text_75 rfl (lv_at hl 2 rfl) ?_
      refine gf_X10_7 S hK hP h0 dX10_text_76 hf (fun x12 hx12 hf => ?_)
      refine lv_iconst (v := 2) hx hb dX10_text_79 (by decide) ?_
      refine lv_dup2_11 hx hb dX10_text_80 rfl rfl ?_
      refine r_iald S hK hP hx12 dX10_text_81 hf (fun x13 hf => ?_)
      refine lv_iconst (v := 1) hx hb dX10_text_82 (by decide) ?_
      refine lv_iadd hx hb dX10_text_83 ?_
      refine r_iast S hK hG hP hS hx12 dX10_text_84 hf (fun M H locs hP hS hf => ?_)
      refine lv_aload_n hx hb dX10_text_85 rfl (lv_at hl 2 rfl) ?_
      refine gf_X10_7 S hK hP h0 dX10_text_86 hf (fun x14 hx14 hf => ?_)
      refine lv_iconst (v := 2) hx hb dX10_text_89 (by decide) ?_
      refine r_iald S hK hP hx14 dX10_text_90 hf (fun x15 hf => ?_)
      refine lv_iconst (v := 1) hx hb dX10_text_91 (by decide) ?_
      refine lv_isub hx hb dX10_text_92 ?_
      exact hret _ _ _ _ _ _ dX10_text_93 hP hS rfl hf
    · refine lv_ldc (v := (-1000000003)) hx hb hown (ht _ k_1234) dX10_text_28 ?_
      exact hret _ _ _ _ _ _ dX10_text_30 hP hS rfl hf
  · refine lv_bipush (v := (-100)) hx hb dX10_text_9 (by decide) ?_
    refine lv_aload_n hx hb dX10_text_11 rfl (lv_at hl 1 rfl) ?_
    refine gf_X10_176 S hK hP h0 dX10_text_12 hf (fun x16 hf => ?_)
    refine lv_isub hx hb dX10_text_15 ?_
    exact hret _ _ _ _ _ _ dX10_text_16 hP hS rfl hf
theorem cw_X10_256 {R : Room} {s : State} {args : Array Value} (ht : ∀ w ∈ Tw, w.before args s = true) (hR : rm_X10_isText.frames + 1 ≤ R.frames ∧ 8 + (2 + 11) + rm_X10_isText.locals ≤ R.locals) : CallW R s args RX10 RX10 256 yX10_isText cX10_isText 2 (some .boolean) (ws_of yX10_isText cX10_isText 2 (some .boolean)) rm_X10_isText 0 0 1 := cw_V 1 ht k_1422 k_1424 k_48 k_73 k_1425 (by decide +kernel) rfl rfl hR
def f_X10_of (o : Nat) (p1 : Int32) (p2 : Int32) (M : Mem) : Option (Int32 × Mem) :=
  bd (f_X10_isText o p1 M) fun x1 M =>
  if x1 = 0 then
    some ((-1000000001), M)
  else
    bd (f_X10_isIn (Int32.toInt64 p2) 0 2 M) fun x2 M =>
    if x2 = 0 then
      some ((-1000000001), M)
    else
      vv (grf G2 o 0) fun x3 =>
      bd (f_X10_textAt o p1 M) fun x4 M =>
      ld M x3 x4 3510 fun x5 =>
      if p2 = 0 then
        if x5 < 12 then
          some (0, M)
        else
          some ((x5 - 11), M)
      else
        if p2 = 2 then
          vv (grf G2 o 0) fun x6 =>
          bd (f_X10_textAt o p1 M) fun x7 M =>
          ld M x6 (x7 + 1) 3510 fun x8 =>
          some (x8, M)
        else
          if x5 < 12 then
            some (x5, M)
          else
            some ((-1000000005), M)
def rm_X10_of : Room := { frames := 2, cells := 0, slots := 0, locals := 46 }
set_option maxHeartbeats 4000000 in
set_option maxRecDepth 100000 in
theorem c_X10_of {l : Launch} {D : va_G} {K : Ks} {ad : Nat → Nat} {A : Nat → Prop} (hG : Gok G2 ad A) {o : Nat} {p1 : Int32} {p2 : Int32} (h0 : gcl G2 o = 10) {M : Mem} {r : Int32} {M' : Mem} (hf : f_X10_of o p1 p2 M = some (r, M')) : Ct l E2 D K G2 ad A yX10_of (ws_of yX10_of cX10_of 4 (some .int)) rm_X10_of .int [.ref (ad o), .int p1, .int p2] M r M' := by
  have hst : Est A E2 := est2
  refine Ct.ofW (by decide) (Nat.le_of_ble_eq_true rfl) ?_
  intro p e s m args below meth c Q H locs ls S hK hE hP hS hl hret
  have hx := S.1
  have hb := S.2.1
  have hown := S.2.2.2.1
  have ht := S.2.2.2.2
  have hl : lv_has ls 4 [(0, .ref (ad o)), (1, .int p1), (2, .int p2)] := hl
  unfold f_X10_of at hf
  refine lv_aload_n hx hb dX10_of_0 rfl (lv_at hl 0 rfl) ?_
  refine lv_iload_n hx hb dX10_of_1 rfl (lv_at hl 1 rfl) ?_
  refine r_callV (As := [.int p1]) (rest := []) S hK hE hst hP hS h0 (by decide) rfl (cw_X10_256 ht ⟨Nat.le_of_ble_eq_true rfl, Nat.le_of_ble_eq_true rfl⟩) rfl hl.1 rfl (Nat.le_of_ble_eq_true rfl) dX10_of_2 z2 (fun _ _ h => c_X10_isText hG  h0 h) hf (fun x1 M H locs hP hS bx1 hf => ?_)
  refine r_if_eq (tgt := 20) S dX10_of_5 (by decide) hf (fun hf => ?_) (fun hf => ?_)
  · refine lv_ldc (v := (-1000000001)) hx hb hown (ht _ k_1232) dX10_of_20 ?_
    exact hret _ _ _ _ _ _ dX10_of_22 hP hS rfl hf
  · refine lv_iload_n hx hb dX10_of_8 rfl (lv_at hl 2 rfl) ?_
    refine lv_i2l (v := (Int32.toInt64 p2)) hx hb dX10_of_9 rfl ?_
    refine lv_lconst (v := 0) hx hb dX10_of_10 (by decide) ?_
    refine lv_ldc2 (v := 2) hx hb hown (ht _ k_1426) dX10_of_11 ?_
    refine r_callS (As := [.long (Int32.toInt64 p2), .long 0, .long 2]) (rest := []) S hK hE hst hP hS (cw_X10_74 ht ⟨Nat.le_of_ble_eq_true rfl, Nat.le_of_ble_eq_true rfl⟩) rfl hl.1 rfl (Nat.le_of_ble_eq_true rfl) dX10_of_14 z2 (fun _ _ h => c_X10_isIn hG  h) hf (fun x2 M H locs hP hS bx2 hf => ?_)
    refine r_if_ne (tgt := 23) S dX10_of_17 (by decide) hf (fun hf => ?_) (fun hf => ?_)
    · refine lv_aload_n hx hb dX10_of_23 rfl (lv_at hl 0 rfl) ?_
      refine gf_X10_7 S hK hP h0 dX10_of_24 hf (fun x3 hx3 hf => ?_)
      refine lv_aload_n hx hb dX10_of_27 rfl (lv_at hl 0 rfl) ?_
      refine lv_iload_n hx hb dX10_of_28 rfl (lv_at hl 1 rfl) ?_
      refine r_callV (As := [.int p1]) (rest := [.ref (ad x3)]) S hK hE hst hP hS h0 (by decide) rfl (cw_X10_109 ht ⟨Nat.le_of_ble_eq_true rfl, Nat.le_of_ble_eq_true rfl⟩) rfl hl.1 rfl (Nat.le_of_ble_eq_true rfl) dX10_of_29 z2 (fun _ _ h => c_X10_textAt hG  h0 h) hf (fun x4 M H locs hP hS bx4 hf => ?_)
      refine r_iald S hK hP hx3 dX10_of_32 hf (fun x5 hf => ?_)
      refine lv_istore_n (lv' := [(3, .int x5), (0, .ref (ad o)), (1, .int p1), (2, .int p2)]) hx hb dX10_of_33 rfl hl (by decide) rfl (fun ls hl => ?_)
      refine lv_iload_n hx hb dX10_of_34 rfl (lv_at hl 3 rfl) ?_
      refine r_if_ne (tgt := 55) S dX10_of_35 (by decide) hf (fun hf => ?_) (fun hf => ?_)
      · refine lv_iload_n hx hb dX10_of_55 rfl (lv_at hl 3 rfl) ?_
        refine lv_iconst (v := 2) hx hb dX10_of_56 (by decide) ?_
        refine r_icmp_ne (tgt := 75) S dX10_of_57 (by decide) hf (fun hf => ?_) (fun hf => ?_)
        · refine lv_iload_n hx hb dX10_of_75 rfl (lv_at hl 0 rfl) ?_
          refine lv_bipush (v := 12) hx hb dX10_of_76 (by decide) ?_
          refine r_icmp_ge (tgt := 85) S dX10_of_78 (by decide) hf (fun hf => ?_) (fun hf => ?_)
          · refine lv_ldc (v := (-1000000005)) hx hb hown (ht _ k_1268) dX10_of_85 ?_
            exact hret _ _ _ _ _ _ dX10_of_87 hP hS rfl hf
          · refine lv_iload_n hx hb dX10_of_81 rfl (lv_at hl 0 rfl) ?_
            refine lv_goto (tgt := 87) hx hb dX10_of_82 (by decide) ?_
            exact hret _ _ _ _ _ _ dX10_of_87 hP hS rfl hf
        · refine lv_aload_n hx hb dX10_of_60 rfl (lv_at hl 1 rfl) ?_
          refine gf_X10_7 S hK hP h0 dX10_of_61 hf (fun x6 hx6 hf => ?_)
          refine lv_aload_n hx hb dX10_of_64 rfl (lv_at hl 1 rfl) ?_
          refine lv_iload_n hx hb dX10_of_65 rfl (lv_at hl 2 rfl) ?_
          refine r_callV (As := [.int p1]) (rest := [.ref (ad x6)]) S hK hE hst hP hS h0 (by decide) rfl (cw_X10_109 ht ⟨Nat.le_of_ble_eq_true rfl, Nat.le_of_ble_eq_true rfl⟩) rfl hl.1 rfl (Nat.le_of_ble_eq_true rfl) dX10_of_66 z2 (fun _ _ h => c_X10_textAt hG  h0 h) hf (fun x7 M H locs hP hS bx7 hf => ?_)
          refine lv_iconst (v := 1) hx hb dX10_of_69 (by decide) ?_
          refine lv_iadd hx hb dX10_of_70 ?_
          refine r_iald S hK hP hx6 dX10_of_71 hf (fun x8 hf => ?_)
          refine lv_goto (tgt := 87) hx hb dX10_of_72 (by decide) ?_
          exact hret _ _ _ _ _ _ dX10_of_87 hP hS rfl hf
      · refine lv_iload_n hx hb dX10_of_38 rfl (lv_at hl 0 rfl) ?_
        refine lv_bipush (v := 12) hx hb dX10_of_39 (by decide) ?_
        refine r_icmp_ge (tgt := 48) S dX10_of_41 (by decide) hf (fun hf => ?_) (fun hf => ?_)
        · refine lv_iload_n hx hb dX10_of_48 rfl (lv_at hl 0 rfl) ?_
          refine lv_bipush (v := 11) hx hb dX10_of_49 (by decide) ?_
          refine lv_isub hx hb dX10_of_51 ?_
          refine lv_goto (tgt := 87) hx hb dX10_of_52 (by decide) ?_
          exact hret _ _ _ _ _ _ dX10_of_87 hP hS rfl hf
        · refine lv_iconst (v := 0) hx hb dX10_of_44 (by decide) ?_
          refine lv_goto (tgt := 87) hx hb dX10_of_45 (by decide) ?_
          exact hret _ _ _ _ _ _ dX10_of_87 hP hS rfl hf
    · refine lv_ldc (v := (-1000000001)) hx hb hown (ht _ k_1232) dX10_of_20 ?_
      exact hret _ _ _ _ _ _ dX10_of_22 hP hS rfl hf
def f_X10_why (o : Nat) (p1 : Int32) (p2 : Int32) (M : Mem) : Option (Int32 × Mem) :=
  bd (f_X10_isIn (Int32.toInt64 p1) 0 2 M) fun x1 M =>
  if x1 = 0 then
    some ((-1000000001), M)
  else
    jn (fun (M : Mem) =>
      jn (fun (v3 : Int32) (M : Mem) =>
        bd (f_X10_counts o v3 M) fun x5 M =>
        bd (f_X10_orNone x5 M) fun x6 M =>
        some (x6, M)
      ) fun k4 =>
      if p1 = 0 then
        k4 p2 M
      else
        k4 (p1 + 11) M
    ) fun k2 =>
    if p1 = 0 then
      bd (f_X10_isIn (Int32.toInt64 p2) 0 11 M) fun x7 M =>
      if x7 = 0 then
        some ((-1000000001), M)
      else
        k2 M
    else
      k2 M
def rm_X10_why : Room := { frames := 2, cells := 0, slots := 0, locals := 44 }
set_option maxHeartbeats 4000000 in
set_option maxRecDepth 100000 in
theorem c_X10_why {l : Launch} {D : va_G} {K : Ks} {ad : Nat → Nat} {A : Nat → Prop} (hG : Gok G2 ad A) {o : Nat} {p1 : Int32} {p2 : Int32} (h0 : gcl G2 o = 10) {M : Mem} {r : Int32} {M' : Mem} (hf : f_X10_why o p1 p2 M = some (r, M')) : Ct l E2 D K G2 ad A yX10_why (ws_of yX10_why cX10_why 3 (some .int)) rm_X10_why .int [.ref (ad o), .int p1, .int p2] M r M' := by
  have hst : Est A E2 := est2
  refine Ct.ofW (by decide) (Nat.le_of_ble_eq_true rfl) ?_
  intro p e s m args below meth c Q H locs ls S hK hE hP hS hl hret
  have hx := S.1
  have hb := S.2.1
  have hown := S.2.2.2.1
  have ht := S.2.2.2.2
  have hl : lv_has ls 3 [(0, .ref (ad o)), (1, .int p1), (2, .int p2)] := hl
  unfold f_X10_why at hf
  refine lv_iload_n hx hb dX10_why_0 rfl (lv_at hl 1 rfl) ?_
  refine lv_i2l (v := (Int32.toInt64 p1)) hx hb dX10_why_1 rfl ?_
  refine lv_lconst (v := 0) hx hb dX10_why_2 (by decide) ?_
  refine lv_ldc2 (v := 2) hx hb hown (ht _ k_1426) dX10_why_3 ?_
  refine r_callS (As := [.long (Int32.toInt64 p1), .long 0, .long 2]) (rest := []) S hK hE hst hP hS (cw_X10_74 ht ⟨Nat.le_of_ble_eq_true rfl, Nat.le_of_ble_eq_true rfl⟩) rfl hl.1 rfl (Nat.le_of_ble_eq_true rfl) dX10_why_6 z2 (fun _ _ h => c_X10_isIn hG  h) hf (fun x1 M H locs hP hS bx1 hf => ?_)
  refine r_if_eq (tgt := 28) S dX10_why_9 (by decide) hf (fun hf => ?_) (fun hf => ?_)
  · refine lv_ldc (v := (-1000000001)) hx hb hown (ht _ k_1232) dX10_why_28 ?_
    exact hret _ _ _ _ _ _ dX10_why_30 hP hS rfl hf
  · refine lv_iload_n hx hb dX10_why_12 rfl (lv_at hl 1 rfl) ?_
    obtain ⟨k2, hk2, hf⟩ := jn_w hf
    have J2 : ∀ (M : Mem) (H : Heap) (locs : List Loc) (ls : Array Slot), lv_has ls 3 [(0, .ref (ad o)), (1, .int p1), (2, .int p2)] → va_P D classes (gws K G2 ad M) H → va_S A s.heap H locs → k2 M = some (r, M') → W p l e rm_X10_why s m args below meth c H locs 0 0 Q (F0 m 31 ls []) := by
      intro M H locs ls hl hP hS hf
      rw [hk2] at hf
      refine lv_aload_n hx hb dX10_why_31 rfl (lv_at hl 0 rfl) ?_
      refine lv_iload_n hx hb dX10_why_32 rfl (lv_at hl 1 rfl) ?_
      obtain ⟨k4, hk4, hf⟩ := jn_w hf
      have J4 : ∀ (v3 : Int32) (M : Mem) (H : Heap) (locs : List Loc) (ls : Array Slot), lv_has ls 3 [] → va_P D classes (gws K G2 ad M) H → va_S A s.heap H locs → k4 v3 M = some (r, M') → W p l e rm_X10_why s m args below meth c H locs 0 0 Q (F0 m 44 ls [.int v3, .ref (ad o)]) := by
        intro v3 M H locs ls hl hP hS hf
        rw [hk4] at hf
        refine r_callV (As := [.int v3]) (rest := []) S hK hE hst hP hS h0 (by decide) rfl (cw_X10_112 ht ⟨Nat.le_of_ble_eq_true rfl, Nat.le_of_ble_eq_true rfl⟩) rfl hl.1 rfl (Nat.le_of_ble_eq_true rfl) dX10_why_44 z2 (fun _ _ h => c_X10_counts hG  h0 h) hf (fun x5 M H locs hP hS bx5 hf => ?_)
        refine r_callS (As := [.int x5]) (rest := []) S hK hE hst hP hS (cw_X10_141 ht ⟨Nat.le_of_ble_eq_true rfl, Nat.le_of_ble_eq_true rfl⟩) rfl hl.1 rfl (Nat.le_of_ble_eq_true rfl) dX10_why_47 z2 (fun _ _ h => c_X10_orNone hG  h) hf (fun x6 M H locs hP hS bx6 hf => ?_)
        exact hret _ _ _ _ _ _ dX10_why_50 hP hS rfl hf
      refine r_if_ne (tgt := 40) S dX10_why_33 (by decide) hf (fun hf => ?_) (fun hf => ?_)
      · refine lv_iload_n hx hb dX10_why_40 rfl (lv_at hl 1 rfl) ?_
        refine lv_bipush (v := 11) hx hb dX10_why_41 (by decide) ?_
        refine lv_iadd hx hb dX10_why_43 ?_
        exact J4 (p1 + 11) M H locs ls (lv_sub hl [] rfl) hP hS hf
      · refine lv_iload_n hx hb dX10_why_36 rfl (lv_at hl 2 rfl) ?_
        refine lv_goto (tgt := 44) hx hb dX10_why_37 (by decide) ?_
        exact J4 p2 M H locs ls (lv_sub hl [] rfl) hP hS hf
    refine r_if_ne (tgt := 31) S dX10_why_13 (by decide) hf (fun hf => ?_) (fun hf => ?_)
    · exact J2 M H locs ls (lv_sub hl [0, 1, 2] rfl) hP hS hf
    · refine lv_iload_n hx hb dX10_why_16 rfl (lv_at hl 2 rfl) ?_
      refine lv_i2l (v := (Int32.toInt64 p2)) hx hb dX10_why_17 rfl ?_
      refine lv_lconst (v := 0) hx hb dX10_why_18 (by decide) ?_
      refine lv_ldc2 (v := 11) hx hb hown (ht _ k_1431) dX10_why_19 ?_
      refine r_callS (As := [.long (Int32.toInt64 p2), .long 0, .long 11]) (rest := []) S hK hE hst hP hS (cw_X10_74 ht ⟨Nat.le_of_ble_eq_true rfl, Nat.le_of_ble_eq_true rfl⟩) rfl hl.1 rfl (Nat.le_of_ble_eq_true rfl) dX10_why_22 z2 (fun _ _ h => c_X10_isIn hG  h) hf (fun x7 M H locs hP hS bx7 hf => ?_)
      refine r_if_ne (tgt := 31) S dX10_why_25 (by decide) hf (fun hf => ?_) (fun hf => ?_)
      · exact J2 M H locs ls (lv_sub hl [0, 1, 2] rfl) hP hS hf
      · refine lv_ldc (v := (-1000000001)) hx hb hown (ht _ k_1232) dX10_why_28 ?_
        exact hret _ _ _ _ _ _ dX10_why_30 hP hS rfl hf
theorem cw_X10_269 {R : Room} {s : State} {args : Array Value} (ht : ∀ w ∈ Tw, w.before args s = true) (hR : rm_X10_lineAt.frames + 1 ≤ R.frames ∧ 8 + (2 + 11) + rm_X10_lineAt.locals ≤ R.locals) : CallW R s args RX10 RX10 269 yX10_lineAt cX10_lineAt 2 (some .int) (ws_of yX10_lineAt cX10_lineAt 2 (some .int)) rm_X10_lineAt 0 0 1 := cw_V 1 ht k_1437 k_1439 k_49 k_73 k_1440 (by decide +kernel) rfl rfl hR
def f_X10_line (o : Nat) (p1 : Int32) (p2 : Int32) (M : Mem) : Option (Int32 × Mem) :=
  bd (f_X10_isIn (Int32.toInt64 p1) 0 5 M) fun x1 M =>
  if x1 = 0 then
    some ((-1000000001), M)
  else
    bd (f_X10_isFigure o p2 M) fun x2 M =>
    if x2 = 0 then
      some ((-1000000001), M)
    else
      bd (f_X10_lineAt o p1 M) fun x3 M =>
      vv (grf G2 o 0) fun x4 =>
      ld M x4 x3 3510 fun x5 =>
      jn (fun (v6 : Int32) (M : Mem) =>
        vv (grf G2 o 0) fun x8 =>
        bd (f_X10_figureAt o p2 M) fun x9 M =>
        ld M x8 (x9 + 5) 3510 fun x10 =>
        if x10 < 0 then
          if v6 = 0 then
            some ((-1000000002), M)
          else
            vv (grf G2 o 0) fun x11 =>
            ld M x11 x3 3510 fun x12 =>
            if x12 = 12 then
              some ((-1000000003), M)
            else
              vv (grf G2 o 0) fun x13 =>
              ld M x13 x3 3510 fun x14 =>
              st M x13 x3 3510 (x14 + 1) fun M =>
              vv (grf G2 o 0) fun x15 =>
              vv (grf G2 o 0) fun x16 =>
              ld M x16 x3 3510 fun x17 =>
              st M x15 (x3 + x17) 3510 p2 fun M =>
              vv (grf G2 o 0) fun x18 =>
              bd (f_X10_figureAt o p2 M) fun x19 M =>
              st M x18 (x19 + 5) 3510 p1 fun M =>
              vv (grf G2 o 0) fun x20 =>
              ld M x20 x3 3510 fun x21 =>
              some (x21, M)
        else
          some ((-1000000002), M)
      ) fun k7 =>
      if x5 = 0 then
        k7 1 M
      else
        vv (grf G2 o 0) fun x22 =>
        bd (f_X10_figureAt o p2 M) fun x23 M =>
        ld M x22 x23 3510 fun x24 =>
        vv (grf G2 o 0) fun x25 =>
        vv (grf G2 o 0) fun x26 =>
        vv (grf G2 o 0) fun x27 =>
        ld M x27 x3 3510 fun x28 =>
        ld M x26 (x3 + x28) 3510 fun x29 =>
        bd (f_X10_figureAt o x29 M) fun x30 M =>
        ld M x25 x30 3510 fun x31 =>
        if x31 < x24 then
          k7 1 M
        else
          k7 0 M
def rm_X10_line : Room := { frames := 2, cells := 0, slots := 0, locals := 46 }
set_option maxHeartbeats 4000000 in
set_option maxRecDepth 100000 in
theorem c_X10_line {l : Launch} {D : va_G} {K : Ks} {ad : Nat → Nat} {A : Nat → Prop} (hG : Gok G2 ad A) {o : Nat} {p1 : Int32} {p2 : Int32} (h0 : gcl G2 o = 10) {M : Mem} {r : Int32} {M' : Mem} (hf : f_X10_line o p1 p2 M = some (r, M')) : Ct l E2 D K G2 ad A yX10_line (ws_of yX10_line cX10_line 5 (some .int)) rm_X10_line .int [.ref (ad o), .int p1, .int p2] M r M' := by
  have hst : Est A E2 := est2
  refine Ct.ofW (by decide) (Nat.le_of_ble_eq_true rfl) ?_
  intro p e s m args below meth c Q H locs ls S hK hE hP hS hl hret
  have hx := S.1
  have hb := S.2.1
  have hown := S.2.2.2.1
  have ht := S.2.2.2.2
  have hl : lv_has ls 5 [(0, .ref (ad o)), (1, .int p1), (2, .int p2)] := hl
  unfold f_X10_line at hf
  refine lv_iload_n hx hb dX10_line_0 rfl (lv_at hl 1 rfl) ?_
  refine lv_i2l (v := (Int32.toInt64 p1)) hx hb dX10_line_1 rfl ?_
  refine lv_lconst (v := 0) hx hb dX10_line_2 (by decide) ?_
  refine lv_ldc2 (v := 5) hx hb hown (ht _ k_1436) dX10_line_3 ?_
  refine r_callS (As := [.long (Int32.toInt64 p1), .long 0, .long 5]) (rest := []) S hK hE hst hP hS (cw_X10_74 ht ⟨Nat.le_of_ble_eq_true rfl, Nat.le_of_ble_eq_true rfl⟩) rfl hl.1 rfl (Nat.le_of_ble_eq_true rfl) dX10_line_6 z2 (fun _ _ h => c_X10_isIn hG  h) hf (fun x1 M H locs hP hS bx1 hf => ?_)
  refine r_if_eq (tgt := 20) S dX10_line_9 (by decide) hf (fun hf => ?_) (fun hf => ?_)
  · refine lv_ldc (v := (-1000000001)) hx hb hown (ht _ k_1232) dX10_line_20 ?_
    exact hret _ _ _ _ _ _ dX10_line_22 hP hS rfl hf
  · refine lv_aload_n hx hb dX10_line_12 rfl (lv_at hl 0 rfl) ?_
    refine lv_iload_n hx hb dX10_line_13 rfl (lv_at hl 2 rfl) ?_
    refine r_callV (As := [.int p2]) (rest := []) S hK hE hst hP hS h0 (by decide) rfl (cw_X10_102 ht ⟨Nat.le_of_ble_eq_true rfl, Nat.le_of_ble_eq_true rfl⟩) rfl hl.1 rfl (Nat.le_of_ble_eq_true rfl) dX10_line_14 z2 (fun _ _ h => c_X10_isFigure hG  h0 h) hf (fun x2 M H locs hP hS bx2 hf => ?_)
    refine r_if_ne (tgt := 23) S dX10_line_17 (by decide) hf (fun hf => ?_) (fun hf => ?_)
    · refine lv_aload_n hx hb dX10_line_23 rfl (lv_at hl 0 rfl) ?_
      refine lv_iload_n hx hb dX10_line_24 rfl (lv_at hl 1 rfl) ?_
      refine r_callV (As := [.int p1]) (rest := []) S hK hE hst hP hS h0 (by decide) rfl (cw_X10_269 ht ⟨Nat.le_of_ble_eq_true rfl, Nat.le_of_ble_eq_true rfl⟩) rfl hl.1 rfl (Nat.le_of_ble_eq_true rfl) dX10_line_25 z2 (fun _ _ h => c_X10_lineAt hG  h0 h) hf (fun x3 M H locs hP hS bx3 hf => ?_)
      refine lv_istore_n (lv' := [(3, .int x3), (0, .ref (ad o)), (1, .int p1), (2, .int p2)]) hx hb dX10_line_28 rfl hl (by decide) rfl (fun ls hl => ?_)
      refine lv_aload_n hx hb dX10_line_29 rfl (lv_at hl 1 rfl) ?_
      refine gf_X10_7 S hK hP h0 dX10_line_30 hf (fun x4 hx4 hf => ?_)
      refine lv_iload_n hx hb dX10_line_33 rfl (lv_at hl 0 rfl) ?_
      refine r_iald S hK hP hx4 dX10_line_34 hf (fun x5 hf => ?_)
      obtain ⟨k7, hk7, hf⟩ := jn_w hf
      have J7 : ∀ (v6 : Int32) (M : Mem) (H : Heap) (locs : List Loc) (ls : Array Slot), lv_has ls 5 [(0, .ref (ad o)), (1, .int p1), (2, .int p2), (3, .int x3)] → va_P D classes (gws K G2 ad M) H → va_S A s.heap H locs → k7 v6 M = some (r, M') → W p l e rm_X10_line s m args below meth c H locs 0 0 Q (F0 m 78 ls [.int v6]) := by
        intro v6 M H locs ls hl hP hS hf
        rw [hk7] at hf
        refine lv_istore (lv' := [(4, .int v6), (0, .ref (ad o)), (1, .int p1), (2, .int p2), (3, .int x3)]) hx hb dX10_line_78 hl (by decide) rfl (fun ls hl => ?_)
        refine lv_aload_n hx hb dX10_line_80 rfl (lv_at hl 1 rfl) ?_
        refine gf_X10_7 S hK hP h0 dX10_line_81 hf (fun x8 hx8 hf => ?_)
        refine lv_aload_n hx hb dX10_line_84 rfl (lv_at hl 1 rfl) ?_
        refine lv_iload_n hx hb dX10_line_85 rfl (lv_at hl 3 rfl) ?_
        refine r_callV (As := [.int p2]) (rest := [.ref (ad x8)]) S hK hE hst hP hS h0 (by decide) rfl (cw_X10_87 ht ⟨Nat.le_of_ble_eq_true rfl, Nat.le_of_ble_eq_true rfl⟩) rfl hl.1 rfl (Nat.le_of_ble_eq_true rfl) dX10_line_86 z2 (fun _ _ h => c_X10_figureAt hG  h0 h) hf (fun x9 M H locs hP hS bx9 hf => ?_)
        refine lv_iconst (v := 5) hx hb dX10_line_89 (by decide) ?_
        refine lv_iadd hx hb dX10_line_90 ?_
        refine r_iald S hK hP hx8 dX10_line_91 hf (fun x10 hf => ?_)
        refine r_if_ge (tgt := 100) S dX10_line_92 (by decide) hf (fun hf => ?_) (fun hf => ?_)
        · refine lv_ldc (v := (-1000000002)) hx hb hown (ht _ k_1233) dX10_line_100 ?_
          exact hret _ _ _ _ _ _ dX10_line_102 hP hS rfl hf
        · refine lv_iload hx hb dX10_line_95 (lv_at hl 0 rfl) ?_
          refine r_if_ne (tgt := 103) S dX10_line_97 (by decide) hf (fun hf => ?_) (fun hf => ?_)
          · refine lv_aload_n hx hb dX10_line_103 rfl (lv_at hl 1 rfl) ?_
            refine gf_X10_7 S hK hP h0 dX10_line_104 hf (fun x11 hx11 hf => ?_)
            refine lv_iload_n hx hb dX10_line_107 rfl (lv_at hl 4 rfl) ?_
            refine r_iald S hK hP hx11 dX10_line_108 hf (fun x12 hf => ?_)
            refine lv_bipush (v := 12) hx hb dX10_line_109 (by decide) ?_
            refine r_icmp_ne (tgt := 117) S dX10_line_111 (by decide) hf (fun hf => ?_) (fun hf => ?_)
            · refine lv_aload_n hx hb dX10_line_117 rfl (lv_at hl 1 rfl) ?_
              refine gf_X10_7 S hK hP h0 dX10_line_118 hf (fun x13 hx13 hf => ?_)
              refine lv_iload_n hx hb dX10_line_121 rfl (lv_at hl 4 rfl) ?_
              refine lv_dup2_11 hx hb dX10_line_122 rfl rfl ?_
              refine r_iald S hK hP hx13 dX10_line_123 hf (fun x14 hf => ?_)
              refine lv_iconst (v := 1) hx hb dX10_line_124 (by decide) ?_
              refine lv_iadd hx hb dX10_line_125 ?_
              refine r_iast S hK hG hP hS hx13 dX10_line_126 hf (fun M H locs hP hS hf => ?_)
              refine lv_aload_n hx hb dX10_line_127 rfl (lv_at hl 1 rfl) ?_
              refine gf_X10_7 S hK hP h0 dX10_line_128 hf (fun x15 hx15 hf => ?_)
              refine lv_iload_n hx hb dX10_line_131 rfl (lv_at hl 4 rfl) ?_
              refine lv_aload_n hx hb dX10_line_132 rfl (lv_at hl 1 rfl) ?_
              refine gf_X10_7 S hK hP h0 dX10_line_133 hf (fun x16 hx16 hf => ?_)
              refine lv_iload_n hx hb dX10_line_136 rfl (lv_at hl 4 rfl) ?_
              refine r_iald S hK hP hx16 dX10_line_137 hf (fun x17 hf => ?_)
              refine lv_iadd hx hb dX10_line_138 ?_
              refine lv_iload_n hx hb dX10_line_139 rfl (lv_at hl 3 rfl) ?_
              refine r_iast S hK hG hP hS hx15 dX10_line_140 hf (fun M H locs hP hS hf => ?_)
              refine lv_aload_n hx hb dX10_line_141 rfl (lv_at hl 1 rfl) ?_
              refine gf_X10_7 S hK hP h0 dX10_line_142 hf (fun x18 hx18 hf => ?_)
              refine lv_aload_n hx hb dX10_line_145 rfl (lv_at hl 1 rfl) ?_
              refine lv_iload_n hx hb dX10_line_146 rfl (lv_at hl 3 rfl) ?_
              refine r_callV (As := [.int p2]) (rest := [.ref (ad x18)]) S hK hE hst hP hS h0 (by decide) rfl (cw_X10_87 ht ⟨Nat.le_of_ble_eq_true rfl, Nat.le_of_ble_eq_true rfl⟩) rfl hl.1 rfl (Nat.le_of_ble_eq_true rfl) dX10_line_147 z2 (fun _ _ h => c_X10_figureAt hG  h0 h) hf (fun x19 M H locs hP hS bx19 hf => ?_)
              refine lv_iconst (v := 5) hx hb dX10_line_150 (by decide) ?_
              refine lv_iadd hx hb dX10_line_151 ?_
              refine lv_iload_n hx hb dX10_line_152 rfl (lv_at hl 2 rfl) ?_
              refine r_iast S hK hG hP hS hx18 dX10_line_153 hf (fun M H locs hP hS hf => ?_)
              refine lv_aload_n hx hb dX10_line_154 rfl (lv_at hl 1 rfl) ?_
              refine gf_X10_7 S hK hP h0 dX10_line_155 hf (fun x20 hx20 hf => ?_)
              refine lv_iload_n hx hb dX10_line_158 rfl (lv_at hl 4 rfl) ?_
              refine r_iald S hK hP hx20 dX10_line_159 hf (fun x21 hf => ?_)
              exact hret _ _ _ _ _ _ dX10_line_160 hP hS rfl hf
            · refine lv_ldc (v := (-1000000003)) hx hb hown (ht _ k_1234) dX10_line_114 ?_
              exact hret _ _ _ _ _ _ dX10_line_116 hP hS rfl hf
          · refine lv_ldc (v := (-1000000002)) hx hb hown (ht _ k_1233) dX10_line_100 ?_
            exact hret _ _ _ _ _ _ dX10_line_102 hP hS rfl hf
      refine r_if_eq (tgt := 73) S dX10_line_35 (by decide) hf (fun hf => ?_) (fun hf => ?_)
      · refine lv_iconst (v := 1) hx hb dX10_line_73 (by decide) ?_
        refine lv_goto (tgt := 78) hx hb dX10_line_74 (by decide) ?_
        exact J7 1 M H locs ls (lv_sub hl [1, 2, 3, 0] rfl) hP hS hf
      · refine lv_aload_n hx hb dX10_line_38 rfl (lv_at hl 1 rfl) ?_
        refine gf_X10_7 S hK hP h0 dX10_line_39 hf (fun x22 hx22 hf => ?_)
        refine lv_aload_n hx hb dX10_line_42 rfl (lv_at hl 1 rfl) ?_
        refine lv_iload_n hx hb dX10_line_43 rfl (lv_at hl 3 rfl) ?_
        refine r_callV (As := [.int p2]) (rest := [.ref (ad x22)]) S hK hE hst hP hS h0 (by decide) rfl (cw_X10_87 ht ⟨Nat.le_of_ble_eq_true rfl, Nat.le_of_ble_eq_true rfl⟩) rfl hl.1 rfl (Nat.le_of_ble_eq_true rfl) dX10_line_44 z2 (fun _ _ h => c_X10_figureAt hG  h0 h) hf (fun x23 M H locs hP hS bx23 hf => ?_)
        refine r_iald S hK hP hx22 dX10_line_47 hf (fun x24 hf => ?_)
        refine lv_aload_n hx hb dX10_line_48 rfl (lv_at hl 1 rfl) ?_
        refine gf_X10_7 S hK hP h0 dX10_line_49 hf (fun x25 hx25 hf => ?_)
        refine lv_aload_n hx hb dX10_line_52 rfl (lv_at hl 1 rfl) ?_
        refine lv_aload_n hx hb dX10_line_53 rfl (lv_at hl 1 rfl) ?_
        refine gf_X10_7 S hK hP h0 dX10_line_54 hf (fun x26 hx26 hf => ?_)
        refine lv_iload_n hx hb dX10_line_57 rfl (lv_at hl 0 rfl) ?_
        refine lv_aload_n hx hb dX10_line_58 rfl (lv_at hl 1 rfl) ?_
        refine gf_X10_7 S hK hP h0 dX10_line_59 hf (fun x27 hx27 hf => ?_)
        refine lv_iload_n hx hb dX10_line_62 rfl (lv_at hl 0 rfl) ?_
        refine r_iald S hK hP hx27 dX10_line_63 hf (fun x28 hf => ?_)
        refine lv_iadd hx hb dX10_line_64 ?_
        refine r_iald S hK hP hx26 dX10_line_65 hf (fun x29 hf => ?_)
        refine r_callV (As := [.int x29]) (rest := [.ref (ad x25), .int x24]) S hK hE hst hP hS h0 (by decide) rfl (cw_X10_87 ht ⟨Nat.le_of_ble_eq_true rfl, Nat.le_of_ble_eq_true rfl⟩) rfl hl.1 rfl (Nat.le_of_ble_eq_true rfl) dX10_line_66 z2 (fun _ _ h => c_X10_figureAt hG  h0 h) hf (fun x30 M H locs hP hS bx30 hf => ?_)
        refine r_iald S hK hP hx25 dX10_line_69 hf (fun x31 hf => ?_)
        refine r_icmp_le (tgt := 77) S dX10_line_70 (by decide) hf (fun hf => ?_) (fun hf => ?_)
        · refine lv_iconst (v := 0) hx hb dX10_line_77 (by decide) ?_
          exact J7 0 M H locs ls (lv_sub hl [1, 2, 3, 0] rfl) hP hS hf
        · refine lv_iconst (v := 1) hx hb dX10_line_73 (by decide) ?_
          refine lv_goto (tgt := 78) hx hb dX10_line_74 (by decide) ?_
          exact J7 1 M H locs ls (lv_sub hl [1, 2, 3, 0] rfl) hP hS hf
    · refine lv_ldc (v := (-1000000001)) hx hb hown (ht _ k_1232) dX10_line_20 ?_
      exact hret _ _ _ _ _ _ dX10_line_22 hP hS rfl hf
def f_X10_placed (p0 : Int32) (p1 : Int32) (M : Mem) : Option (Int32 × Mem) :=
  if p1 = 4 then
    some (p0, M)
  else
    if p1 = 3 then
      some ((p0 / 10), M)
    else
      if p1 = 2 then
        some ((p0 / 100), M)
      else
        some ((p0 / 1000), M)
def rm_X10_placed : Room := { frames := 0, cells := 0, slots := 0, locals := 0 }
set_option maxHeartbeats 4000000 in
set_option maxRecDepth 100000 in
theorem c_X10_placed {l : Launch} {D : va_G} {K : Ks} {ad : Nat → Nat} {A : Nat → Prop} (hG : Gok G2 ad A) {p0 : Int32} {p1 : Int32}  {M : Mem} {r : Int32} {M' : Mem} (hf : f_X10_placed p0 p1 M = some (r, M')) : Ct l E2 D K G2 ad A yX10_placed (ws_of yX10_placed cX10_placed 2 (some .int)) rm_X10_placed .int [.int p0, .int p1] M r M' := by
  have hst : Est A E2 := est2
  refine Ct.ofW (by decide) (Nat.le_of_ble_eq_true rfl) ?_
  intro p e s m args below meth c Q H locs ls S hK hE hP hS hl hret
  have hx := S.1
  have hb := S.2.1
  have hown := S.2.2.2.1
  have ht := S.2.2.2.2
  have hl : lv_has ls 2 [(0, .int p0), (1, .int p1)] := hl
  unfold f_X10_placed at hf
  refine lv_iload_n hx hb dX10_placed_0 rfl (lv_at hl 1 rfl) ?_
  refine lv_iconst (v := 4) hx hb dX10_placed_1 (by decide) ?_
  refine r_icmp_ne (tgt := 9) S dX10_placed_2 (by decide) hf (fun hf => ?_) (fun hf => ?_)
  · refine lv_iload_n hx hb dX10_placed_9 rfl (lv_at hl 1 rfl) ?_
    refine lv_iconst (v := 3) hx hb dX10_placed_10 (by decide) ?_
    refine r_icmp_ne (tgt := 21) S dX10_placed_11 (by decide) hf (fun hf => ?_) (fun hf => ?_)
    · refine lv_iload_n hx hb dX10_placed_21 rfl (lv_at hl 1 rfl) ?_
      refine lv_iconst (v := 2) hx hb dX10_placed_22 (by decide) ?_
      refine r_icmp_ne (tgt := 33) S dX10_placed_23 (by decide) hf (fun hf => ?_) (fun hf => ?_)
      · refine lv_iload_n hx hb dX10_placed_33 rfl (lv_at hl 0 rfl) ?_
        refine lv_sipush (v := 1000) hx hb dX10_placed_34 (by decide) ?_
        refine lv_idiv hx hb dX10_placed_37 (by decide) ?_
        exact hret _ _ _ _ _ _ dX10_placed_38 hP hS rfl hf
      · refine lv_iload_n hx hb dX10_placed_26 rfl (lv_at hl 0 rfl) ?_
        refine lv_bipush (v := 100) hx hb dX10_placed_27 (by decide) ?_
        refine lv_idiv hx hb dX10_placed_29 (by decide) ?_
        refine lv_goto (tgt := 38) hx hb dX10_placed_30 (by decide) ?_
        exact hret _ _ _ _ _ _ dX10_placed_38 hP hS rfl hf
    · refine lv_iload_n hx hb dX10_placed_14 rfl (lv_at hl 0 rfl) ?_
      refine lv_bipush (v := 10) hx hb dX10_placed_15 (by decide) ?_
      refine lv_idiv hx hb dX10_placed_17 (by decide) ?_
      refine lv_goto (tgt := 38) hx hb dX10_placed_18 (by decide) ?_
      exact hret _ _ _ _ _ _ dX10_placed_38 hP hS rfl hf
  · refine lv_iload_n hx hb dX10_placed_5 rfl (lv_at hl 0 rfl) ?_
    refine lv_goto (tgt := 38) hx hb dX10_placed_6 (by decide) ?_
    exact hret _ _ _ _ _ _ dX10_placed_38 hP hS rfl hf
theorem cw_X10_272 {R : Room} {s : State} {args : Array Value} (ht : ∀ w ∈ Tw, w.before args s = true) (hR : rm_X10_placed.frames + 1 ≤ R.frames ∧ 8 + (2 + 11) + rm_X10_placed.locals ≤ R.locals) : CallB R s args RX10 272 yX10_placed cX10_placed 2 (some .int) (ws_of yX10_placed cX10_placed 2 (some .int)) rm_X10_placed 0 0 2 ∧ (Cond.static yX10_placed).before args s = true := cw_S 2 ht k_1457 k_1458 k_73 k_1459 (by decide +kernel) rfl rfl hR
def f_X10_inLine (o : Nat) (p1 : Int32) (p2 : Int32) (p3 : Int32) (M : Mem) : Option (Int32 × Mem) :=
  vv (grf G2 o 0) fun x1 =>
  vv (grf G2 o 0) fun x2 =>
  bd (f_X10_lineAt o p1 M) fun x3 M =>
  ld M x2 (x3 + p2) 3510 fun x4 =>
  bd (f_X10_figureAt o x4 M) fun x5 M =>
  ld M x1 (x5 + 2) 3510 fun x6 =>
  bd (f_X10_placed x6 p3 M) fun x7 M =>
  some (x7, M)
def rm_X10_inLine : Room := { frames := 1, cells := 0, slots := 0, locals := 21 }
set_option maxHeartbeats 4000000 in
set_option maxRecDepth 100000 in
theorem c_X10_inLine {l : Launch} {D : va_G} {K : Ks} {ad : Nat → Nat} {A : Nat → Prop} (hG : Gok G2 ad A) {o : Nat} {p1 : Int32} {p2 : Int32} {p3 : Int32} (h0 : gcl G2 o = 10) {M : Mem} {r : Int32} {M' : Mem} (hf : f_X10_inLine o p1 p2 p3 M = some (r, M')) : Ct l E2 D K G2 ad A yX10_inLine (ws_of yX10_inLine cX10_inLine 4 (some .int)) rm_X10_inLine .int [.ref (ad o), .int p1, .int p2, .int p3] M r M' := by
  have hst : Est A E2 := est2
  refine Ct.ofW (by decide) (Nat.le_of_ble_eq_true rfl) ?_
  intro p e s m args below meth c Q H locs ls S hK hE hP hS hl hret
  have hx := S.1
  have hb := S.2.1
  have hown := S.2.2.2.1
  have ht := S.2.2.2.2
  have hl : lv_has ls 4 [(0, .ref (ad o)), (1, .int p1), (2, .int p2), (3, .int p3)] := hl
  unfold f_X10_inLine at hf
  refine lv_aload_n hx hb dX10_inLine_0 rfl (lv_at hl 0 rfl) ?_
  refine gf_X10_7 S hK hP h0 dX10_inLine_1 hf (fun x1 hx1 hf => ?_)
  refine lv_aload_n hx hb dX10_inLine_4 rfl (lv_at hl 0 rfl) ?_
  refine lv_aload_n hx hb dX10_inLine_5 rfl (lv_at hl 0 rfl) ?_
  refine gf_X10_7 S hK hP h0 dX10_inLine_6 hf (fun x2 hx2 hf => ?_)
  refine lv_aload_n hx hb dX10_inLine_9 rfl (lv_at hl 0 rfl) ?_
  refine lv_iload_n hx hb dX10_inLine_10 rfl (lv_at hl 1 rfl) ?_
  refine r_callV (As := [.int p1]) (rest := [.ref (ad x2), .ref (ad o), .ref (ad x1)]) S hK hE hst hP hS h0 (by decide) rfl (cw_X10_269 ht ⟨Nat.le_of_ble_eq_true rfl, Nat.le_of_ble_eq_true rfl⟩) rfl hl.1 rfl (Nat.le_of_ble_eq_true rfl) dX10_inLine_11 z2 (fun _ _ h => c_X10_lineAt hG  h0 h) hf (fun x3 M H locs hP hS bx3 hf => ?_)
  refine lv_iload_n hx hb dX10_inLine_14 rfl (lv_at hl 2 rfl) ?_
  refine lv_iadd hx hb dX10_inLine_15 ?_
  refine r_iald S hK hP hx2 dX10_inLine_16 hf (fun x4 hf => ?_)
  refine r_callV (As := [.int x4]) (rest := [.ref (ad x1)]) S hK hE hst hP hS h0 (by decide) rfl (cw_X10_87 ht ⟨Nat.le_of_ble_eq_true rfl, Nat.le_of_ble_eq_true rfl⟩) rfl hl.1 rfl (Nat.le_of_ble_eq_true rfl) dX10_inLine_17 z2 (fun _ _ h => c_X10_figureAt hG  h0 h) hf (fun x5 M H locs hP hS bx5 hf => ?_)
  refine lv_iconst (v := 2) hx hb dX10_inLine_20 (by decide) ?_
  refine lv_iadd hx hb dX10_inLine_21 ?_
  refine r_iald S hK hP hx1 dX10_inLine_22 hf (fun x6 hf => ?_)
  refine lv_iload_n hx hb dX10_inLine_23 rfl (lv_at hl 3 rfl) ?_
  refine r_callS (As := [.int x6, .int p3]) (rest := []) S hK hE hst hP hS (cw_X10_272 ht ⟨Nat.le_of_ble_eq_true rfl, Nat.le_of_ble_eq_true rfl⟩) rfl hl.1 rfl (Nat.le_of_ble_eq_true rfl) dX10_inLine_24 z2 (fun _ _ h => c_X10_placed hG  h) hf (fun x7 M H locs hP hS bx7 hf => ?_)
  exact hret _ _ _ _ _ _ dX10_inLine_27 hP hS rfl hf
theorem cw_X10_281 {R : Room} {s : State} {args : Array Value} (ht : ∀ w ∈ Tw, w.before args s = true) (hR : rm_X10_inLine.frames + 1 ≤ R.frames ∧ 8 + (4 + 11) + rm_X10_inLine.locals ≤ R.locals) : CallW R s args RX10 RX10 281 yX10_inLine cX10_inLine 4 (some .int) (ws_of yX10_inLine cX10_inLine 4 (some .int)) rm_X10_inLine 0 0 3 := cw_V 3 ht k_1453 k_1455 k_51 k_73 k_1456 (by decide +kernel) rfl rfl hR
section
variable {p : Program} {l : Launch} {e : Env} {R : Room} {s : State} {m : MethodId} {args : Array Value} {below : List Frame} {meth : Method} {c : Code} {H : Heap} {locs : List Loc} {cells slots : Nat} {Q : State → Prop} {cc : ByteArray} {pc : Nat} {ls : Array Slot} {rest : List Value} {nL : Nat} {D : va_G} {K : Ks} {ad : Nat → Nat} {A : Nat → Prop} {M : Mem} {β : Type} {z : β}
theorem gf_X10_275 (S : CallFix p m c cc nL s args Tw RX10) (hK : va_K D classes (gty K) s) (hP : va_P D classes (gws K G2 ad M) H) {a : Nat} {kk : Int32 → Option β} (ha : gcl G2 a = 10) (hdg : decode cc pc = .ok (.getfield 275, 3)) (hf : vv (M a 26) kk = some z) (w : ∀ x, kk x = some z → W p l e R s m args below meth c H locs cells slots Q (F0 m (pc + 3) ls (.int x :: rest))) : W p l e R s m args below meth c H locs cells slots Q (F0 m pc ls (.ref (ad a) :: rest)) := r_geti S hK hP (T := TX10) inX10 rfl (by decide) (by decide) ha (sf_X10_26 ha) k_1132 hdg hf w
end
section
variable {p : Program} {l : Launch} {e : Env} {R : Room} {s : State} {m : MethodId} {args : Array Value} {below : List Frame} {meth : Method} {c : Code} {H : Heap} {locs : List Loc} {cells slots : Nat} {Q : State → Prop} {cc : ByteArray} {pc : Nat} {ls : Array Slot} {rest : List Value} {nL : Nat} {D : va_G} {K : Ks} {ad : Nat → Nat} {A : Nat → Prop} {M : Mem} {β : Type} {z : β}
theorem pf_X10_275 (S : CallFix p m c cc nL s args Tw RX10) (hK : va_K D classes (gty K) s) (hG : Gok G2 ad A) (hP : va_P D classes (gws K G2 ad M) H) (hS : va_S A s.heap H locs) {a : Nat} {v : Int32} {kk : Mem → Option β} (ha : gcl G2 a = 10) (hdg : decode cc pc = .ok (.putfield 275, 3)) (hf : mm (up M a 26 v) kk = some z) (w : ∀ M H locs, va_P D classes (gws K G2 ad M) H → va_S A s.heap H locs → kk M = some z → W p l e R s m args below meth c H locs cells slots Q (F0 m (pc + 3) ls rest)) : W p l e R s m args below meth c H locs cells slots Q (F0 m pc ls (.int v :: .ref (ad a) :: rest)) := r_putt S hK hG hP hS (k := 26) (T := TX10) inX10 rfl (by decide) tyX10 tyX10_ok nmX10 (by decide) rfl rfl rfl ha (sf_X10_26 ha) k_1132 hdg hf w
end
section
variable {p : Program} {l : Launch} {e : Env} {R : Room} {s : State} {m : MethodId} {args : Array Value} {below : List Frame} {meth : Method} {c : Code} {H : Heap} {locs : List Loc} {cells slots : Nat} {Q : State → Prop} {cc : ByteArray} {pc : Nat} {ls : Array Slot} {rest : List Value} {nL : Nat} {D : va_G} {K : Ks} {ad : Nat → Nat} {A : Nat → Prop} {M : Mem} {β : Type} {z : β}
theorem pf_X10_278 (S : CallFix p m c cc nL s args Tw RX10) (hK : va_K D classes (gty K) s) (hG : Gok G2 ad A) (hP : va_P D classes (gws K G2 ad M) H) (hS : va_S A s.heap H locs) {a : Nat} {v : Int32} {kk : Mem → Option β} (ha : gcl G2 a = 10) (hdg : decode cc pc = .ok (.putfield 278, 3)) (hf : mm (up M a 27 v) kk = some z) (w : ∀ M H locs, va_P D classes (gws K G2 ad M) H → va_S A s.heap H locs → kk M = some z → W p l e R s m args below meth c H locs cells slots Q (F0 m (pc + 3) ls rest)) : W p l e R s m args below meth c H locs cells slots Q (F0 m pc ls (.int v :: .ref (ad a) :: rest)) := r_putt S hK hG hP hS (k := 27) (T := TX10) inX10 rfl (by decide) tyX10 tyX10_ok nmX10 (by decide) rfl rfl rfl ha (sf_X10_27 ha) k_1133 hdg hf w
end
def f_X10_findRun (o : Nat) (p1 : Int32) (p2 : Int32) (M : Mem) : Option (Int32 × Mem) :=
  mm (up M o 26 0) fun M =>
  mm (up M o 27 0) fun M =>
  it2 (fun rc3 (v1 : Int32) (v2 : Int32) M =>
    vv (grf G2 o 0) fun x4 =>
    bd (f_X10_lineAt o p1 M) fun x5 M =>
    ld M x4 x5 3510 fun x6 =>
    if x6 < v2 then
      some (0, M)
    else
      jn (fun (v7 : Int32) (M : Mem) =>
        vv (M o 26) fun x9 =>
        if x9 < v7 then
          mm (up M o 26 v7) fun M =>
          mm (up M o 27 ((v2 - v7) + 1)) fun M =>
          rc3 v7 (v2 + 1) M
        else
          rc3 v7 (v2 + 1) M
      ) fun k8 =>
      if 1 < v2 then
        bd (f_X10_inLine o p1 v2 p2 M) fun x10 M =>
        bd (f_X10_inLine o p1 (v2 - 1) p2 M) fun x11 M =>
        if x10 = x11 then
          k8 (v1 + 1) M
        else
          k8 1 M
      else
        k8 1 M
  ) fuel 0 1 M
def rm_X10_findRun : Room := { frames := 2, cells := 0, slots := 0, locals := 44 }
set_option maxHeartbeats 4000000 in
set_option maxRecDepth 100000 in
theorem c_X10_findRun {l : Launch} {D : va_G} {K : Ks} {ad : Nat → Nat} {A : Nat → Prop} (hG : Gok G2 ad A) {o : Nat} {p1 : Int32} {p2 : Int32} (h0 : gcl G2 o = 10) {M : Mem} {r : Int32} {M' : Mem} (hf : f_X10_findRun o p1 p2 M = some (r, M')) : Cv l E2 D K G2 ad A yX10_findRun (ws_of yX10_findRun cX10_findRun 5 none) rm_X10_findRun [.ref (ad o), .int p1, .int p2] M M' := by
  have hst : Est A E2 := est2
  refine Cv.ofW (r := r) (by decide) (Nat.le_of_ble_eq_true rfl) ?_
  intro p e s m args below meth c Q H locs ls S hK hE hP hS hl hret
  have hx := S.1
  have hb := S.2.1
  have hown := S.2.2.2.1
  have ht := S.2.2.2.2
  have hl : lv_has ls 5 [(0, .ref (ad o)), (1, .int p1), (2, .int p2)] := hl
  unfold f_X10_findRun at hf
  refine lv_aload_n hx hb dX10_findRun_0 rfl (lv_at hl 0 rfl) ?_
  refine lv_iconst (v := 0) hx hb dX10_findRun_1 (by decide) ?_
  refine pf_X10_275 S hK hG hP hS h0 dX10_findRun_2 hf (fun M H locs hP hS hf => ?_)
  refine lv_aload_n hx hb dX10_findRun_5 rfl (lv_at hl 0 rfl) ?_
  refine lv_iconst (v := 0) hx hb dX10_findRun_6 (by decide) ?_
  refine pf_X10_278 S hK hG hP hS h0 dX10_findRun_7 hf (fun M H locs hP hS hf => ?_)
  refine lv_iconst (v := 0) hx hb dX10_findRun_10 (by decide) ?_
  refine lv_istore_n (lv' := [(3, .int 0), (0, .ref (ad o)), (1, .int p1), (2, .int p2)]) hx hb dX10_findRun_11 rfl hl (by decide) rfl (fun ls hl => ?_)
  refine lv_iconst (v := 1) hx hb dX10_findRun_12 (by decide) ?_
  refine lv_istore (lv' := [(4, .int 1), (3, .int 0), (0, .ref (ad o)), (1, .int p1), (2, .int p2)]) hx hb dX10_findRun_13 hl (by decide) rfl (fun ls hl => ?_)
  obtain ⟨F3, hF3, hf⟩ := it2_g hf
  have L3 : ∀ (n : Nat) (v1 : Int32) (v2 : Int32) (M : Mem) (H : Heap) (locs : List Loc) (ls : Array Slot), lv_has ls 5 [(0, .ref (ad o)), (1, .int p1), (2, .int p2), (3, .int v1), (4, .int v2)] → va_P D classes (gws K G2 ad M) H → va_S A s.heap H locs → it2 F3 n v1 v2 M = some (r, M') → W p l e rm_X10_findRun s m args below meth c H locs 0 0 Q (F0 m 15 ls []) := by
    intro n
    induction n with
    | zero => intro v1 v2 M H locs ls hl hP hS hf; exact nomatch hf
    | succ n ih3 =>
      intro v1 v2 M H locs ls hl hP hS hf
      obtain ⟨rc3, hrc3, hf⟩ := it2_w hf
      rw [← hrc3] at ih3
      rw [hF3] at hf
      refine lv_iload hx hb dX10_findRun_15 (lv_at hl 4 rfl) ?_
      refine lv_aload_n hx hb dX10_findRun_17 rfl (lv_at hl 0 rfl) ?_
      refine gf_X10_7 S hK hP h0 dX10_findRun_18 hf (fun x4 hx4 hf => ?_)
      refine lv_aload_n hx hb dX10_findRun_21 rfl (lv_at hl 0 rfl) ?_
      refine lv_iload_n hx hb dX10_findRun_22 rfl (lv_at hl 1 rfl) ?_
      refine r_callV (As := [.int p1]) (rest := [.ref (ad x4), .int v2]) S hK hE hst hP hS h0 (by decide) rfl (cw_X10_269 ht ⟨Nat.le_of_ble_eq_true rfl, Nat.le_of_ble_eq_true rfl⟩) rfl hl.1 rfl (Nat.le_of_ble_eq_true rfl) dX10_findRun_23 z2 (fun _ _ h => c_X10_lineAt hG  h0 h) hf (fun x5 M H locs hP hS bx5 hf => ?_)
      refine r_iald S hK hP hx4 dX10_findRun_26 hf (fun x6 hf => ?_)
      refine r_icmp_gt (tgt := 94) S dX10_findRun_27 (by decide) hf (fun hf => ?_) (fun hf => ?_)
      · exact hret _ _ _ _ _ _ dX10_findRun_94 hP hS hf
      · refine lv_iload hx hb dX10_findRun_30 (lv_at hl 4 rfl) ?_
        refine lv_iconst (v := 1) hx hb dX10_findRun_32 (by decide) ?_
        obtain ⟨k8, hk8, hf⟩ := jn_w hf
        have J8 : ∀ (v7 : Int32) (M : Mem) (H : Heap) (locs : List Loc) (ls : Array Slot), lv_has ls 5 [(0, .ref (ad o)), (1, .int p1), (2, .int p2), (4, .int v2)] → va_P D classes (gws K G2 ad M) H → va_S A s.heap H locs → k8 v7 M = some (r, M') → W p l e rm_X10_findRun s m args below meth c H locs 0 0 Q (F0 m 64 ls [.int v7]) := by
          intro v7 M H locs ls hl hP hS hf
          rw [hk8] at hf
          refine lv_istore_n (lv' := [(3, .int v7), (0, .ref (ad o)), (1, .int p1), (2, .int p2), (4, .int v2)]) hx hb dX10_findRun_64 rfl hl (by decide) rfl (fun ls hl => ?_)
          refine lv_iload_n hx hb dX10_findRun_65 rfl (lv_at hl 0 rfl) ?_
          refine lv_aload_n hx hb dX10_findRun_66 rfl (lv_at hl 1 rfl) ?_
          refine gf_X10_275 S hK hP h0 dX10_findRun_67 hf (fun x9 hf => ?_)
          refine r_icmp_le (tgt := 88) S dX10_findRun_70 (by decide) hf (fun hf => ?_) (fun hf => ?_)
          · refine lv_iinc (v := (v2 + 1)) (lv' := [(4, .int (v2 + 1)), (3, .int v7), (0, .ref (ad o)), (1, .int p1), (2, .int p2)]) hx hb dX10_findRun_88 hl (k := 4) rfl rfl (by decide) rfl (fun ls hl => ?_)
            refine lv_goto (tgt := 15) hx hb dX10_findRun_91 (by decide) ?_
            exact ih3 v7 (v2 + 1) M H locs ls (lv_sub hl [2, 3, 4, 1, 0] rfl) hP hS hf
          · refine lv_aload_n hx hb dX10_findRun_73 rfl (lv_at hl 1 rfl) ?_
            refine lv_iload_n hx hb dX10_findRun_74 rfl (lv_at hl 0 rfl) ?_
            refine pf_X10_275 S hK hG hP hS h0 dX10_findRun_75 hf (fun M H locs hP hS hf => ?_)
            refine lv_aload_n hx hb dX10_findRun_78 rfl (lv_at hl 1 rfl) ?_
            refine lv_iload hx hb dX10_findRun_79 (lv_at hl 4 rfl) ?_
            refine lv_iload_n hx hb dX10_findRun_81 rfl (lv_at hl 0 rfl) ?_
            refine lv_isub hx hb dX10_findRun_82 ?_
            refine lv_iconst (v := 1) hx hb dX10_findRun_83 (by decide) ?_
            refine lv_iadd hx hb dX10_findRun_84 ?_
            refine pf_X10_278 S hK hG hP hS h0 dX10_findRun_85 hf (fun M H locs hP hS hf => ?_)
            refine lv_iinc (v := (v2 + 1)) (lv' := [(4, .int (v2 + 1)), (3, .int v7), (0, .ref (ad o)), (1, .int p1), (2, .int p2)]) hx hb dX10_findRun_88 hl (k := 4) rfl rfl (by decide) rfl (fun ls hl => ?_)
            refine lv_goto (tgt := 15) hx hb dX10_findRun_91 (by decide) ?_
            exact ih3 v7 (v2 + 1) M H locs ls (lv_sub hl [2, 3, 4, 1, 0] rfl) hP hS hf
        refine r_icmp_le (tgt := 63) S dX10_findRun_33 (by decide) hf (fun hf => ?_) (fun hf => ?_)
        · refine lv_iconst (v := 1) hx hb dX10_findRun_63 (by decide) ?_
          exact J8 1 M H locs ls (lv_sub hl [0, 1, 2, 4] rfl) hP hS hf
        · refine lv_aload_n hx hb dX10_findRun_36 rfl (lv_at hl 0 rfl) ?_
          refine lv_iload_n hx hb dX10_findRun_37 rfl (lv_at hl 1 rfl) ?_
          refine lv_iload hx hb dX10_findRun_38 (lv_at hl 4 rfl) ?_
          refine lv_iload_n hx hb dX10_findRun_40 rfl (lv_at hl 2 rfl) ?_
          refine r_callV (As := [.int p1, .int v2, .int p2]) (rest := []) S hK hE hst hP hS h0 (by decide) rfl (cw_X10_281 ht ⟨Nat.le_of_ble_eq_true rfl, Nat.le_of_ble_eq_true rfl⟩) rfl hl.1 rfl (Nat.le_of_ble_eq_true rfl) dX10_findRun_41 z2 (fun _ _ h => c_X10_inLine hG  h0 h) hf (fun x10 M H locs hP hS bx10 hf => ?_)
          refine lv_aload_n hx hb dX10_findRun_44 rfl (lv_at hl 0 rfl) ?_
          refine lv_iload_n hx hb dX10_findRun_45 rfl (lv_at hl 1 rfl) ?_
          refine lv_iload hx hb dX10_findRun_46 (lv_at hl 4 rfl) ?_
          refine lv_iconst (v := 1) hx hb dX10_findRun_48 (by decide) ?_
          refine lv_isub hx hb dX10_findRun_49 ?_
          refine lv_iload_n hx hb dX10_findRun_50 rfl (lv_at hl 2 rfl) ?_
          refine r_callV (As := [.int p1, .int (v2 - 1), .int p2]) (rest := [.int x10]) S hK hE hst hP hS h0 (by decide) rfl (cw_X10_281 ht ⟨Nat.le_of_ble_eq_true rfl, Nat.le_of_ble_eq_true rfl⟩) rfl hl.1 rfl (Nat.le_of_ble_eq_true rfl) dX10_findRun_51 z2 (fun _ _ h => c_X10_inLine hG  h0 h) hf (fun x11 M H locs hP hS bx11 hf => ?_)
          refine r_icmp_ne (tgt := 63) S dX10_findRun_54 (by decide) hf (fun hf => ?_) (fun hf => ?_)
          · refine lv_iconst (v := 1) hx hb dX10_findRun_63 (by decide) ?_
            exact J8 1 M H locs ls (lv_sub hl [0, 1, 2, 4] rfl) hP hS hf
          · refine lv_iload_n hx hb dX10_findRun_57 rfl (lv_at hl 3 rfl) ?_
            refine lv_iconst (v := 1) hx hb dX10_findRun_58 (by decide) ?_
            refine lv_iadd hx hb dX10_findRun_59 ?_
            refine lv_goto (tgt := 64) hx hb dX10_findRun_60 (by decide) ?_
            exact J8 (v1 + 1) M H locs ls (lv_sub hl [0, 1, 2, 4] rfl) hP hS hf
  exact L3 _ 0 1 M H locs ls (lv_sub hl [2, 3, 4, 1, 0] rfl) hP hS hf
section
variable {p : Program} {l : Launch} {e : Env} {R : Room} {s : State} {m : MethodId} {args : Array Value} {below : List Frame} {meth : Method} {c : Code} {H : Heap} {locs : List Loc} {cells slots : Nat} {Q : State → Prop} {cc : ByteArray} {pc : Nat} {ls : Array Slot} {rest : List Value} {nL : Nat} {D : va_G} {K : Ks} {ad : Nat → Nat} {A : Nat → Prop} {M : Mem} {β : Type} {z : β}
theorem gf_X10_278 (S : CallFix p m c cc nL s args Tw RX10) (hK : va_K D classes (gty K) s) (hP : va_P D classes (gws K G2 ad M) H) {a : Nat} {kk : Int32 → Option β} (ha : gcl G2 a = 10) (hdg : decode cc pc = .ok (.getfield 278, 3)) (hf : vv (M a 27) kk = some z) (w : ∀ x, kk x = some z → W p l e R s m args below meth c H locs cells slots Q (F0 m (pc + 3) ls (.int x :: rest))) : W p l e R s m args below meth c H locs cells slots Q (F0 m pc ls (.ref (ad a) :: rest)) := r_geti S hK hP (T := TX10) inX10 rfl (by decide) (by decide) ha (sf_X10_27 ha) k_1133 hdg hf w
end
def f_X10_oddsOf (o : Nat) (p1 : Int32) (M : Mem) : Option (Int32 × Mem) :=
  it2 (fun rc3 (v1 : Int64) (v2 : Int32) M =>
    vv (M o 26) fun x4 =>
    if v2 < x4 then
      vv (grf G2 o 0) fun x5 =>
      bd (f_X10_lineAt o p1 M) fun x6 M =>
      vv (M o 27) fun x7 =>
      ld M x5 ((x6 + x7) + v2) 3510 fun x8 =>
      bd (f_X10_spreadOf o x8 M) fun x9 M =>
      vv (v1 * (Int32.toInt64 ((2 * x9) + 1))) fun x10 =>
      jn (fun (v11 : Int64) (M : Mem) =>
        rc3 v11 (v2 + 1) M
      ) fun k12 =>
      if 0 < (lg_cmp x10 1000000000) then
        k12 1000000000 M
      else
        k12 x10 M
    else
      some ((Int64.toInt32 v1), M)
  ) fuel 1 1 M
def rm_X10_oddsOf : Room := { frames := 4, cells := 0, slots := 0, locals := 91 }
set_option maxHeartbeats 4000000 in
set_option maxRecDepth 100000 in
theorem c_X10_oddsOf {l : Launch} {D : va_G} {K : Ks} {ad : Nat → Nat} {A : Nat → Prop} (hG : Gok G2 ad A) {o : Nat} {p1 : Int32} (h0 : gcl G2 o = 10) {M : Mem} {r : Int32} {M' : Mem} (hf : f_X10_oddsOf o p1 M = some (r, M')) : Ct l E2 D K G2 ad A yX10_oddsOf (ws_of yX10_oddsOf cX10_oddsOf 5 (some .int)) rm_X10_oddsOf .int [.ref (ad o), .int p1] M r M' := by
  have hst : Est A E2 := est2
  refine Ct.ofW (by decide) (Nat.le_of_ble_eq_true rfl) ?_
  intro p e s m args below meth c Q H locs ls S hK hE hP hS hl hret
  have hx := S.1
  have hb := S.2.1
  have hown := S.2.2.2.1
  have ht := S.2.2.2.2
  have hl : lv_has ls 5 [(0, .ref (ad o)), (1, .int p1)] := hl
  unfold f_X10_oddsOf at hf
  refine lv_lconst (v := 1) hx hb dX10_oddsOf_0 (by decide) ?_
  refine lv_lstore_n (lv' := [(2, .long 1), (0, .ref (ad o)), (1, .int p1)]) hx hb dX10_oddsOf_1 rfl hl (by decide) rfl (fun ls hl => ?_)
  refine lv_iconst (v := 1) hx hb dX10_oddsOf_2 (by decide) ?_
  refine lv_istore (lv' := [(4, .int 1), (2, .long 1), (0, .ref (ad o)), (1, .int p1)]) hx hb dX10_oddsOf_3 hl (by decide) rfl (fun ls hl => ?_)
  obtain ⟨F3, hF3, hf⟩ := it2_g hf
  have L3 : ∀ (n : Nat) (v1 : Int64) (v2 : Int32) (M : Mem) (H : Heap) (locs : List Loc) (ls : Array Slot), lv_has ls 5 [(0, .ref (ad o)), (1, .int p1), (2, .long v1), (4, .int v2)] → va_P D classes (gws K G2 ad M) H → va_S A s.heap H locs → it2 F3 n v1 v2 M = some (r, M') → W p l e rm_X10_oddsOf s m args below meth c H locs 0 0 Q (F0 m 5 ls []) := by
    intro n
    induction n with
    | zero => intro v1 v2 M H locs ls hl hP hS hf; exact nomatch hf
    | succ n ih3 =>
      intro v1 v2 M H locs ls hl hP hS hf
      obtain ⟨rc3, hrc3, hf⟩ := it2_w hf
      rw [← hrc3] at ih3
      rw [hF3] at hf
      refine lv_iload hx hb dX10_oddsOf_5 (lv_at hl 3 rfl) ?_
      refine lv_aload_n hx hb dX10_oddsOf_7 rfl (lv_at hl 0 rfl) ?_
      refine gf_X10_275 S hK hP h0 dX10_oddsOf_8 hf (fun x4 hf => ?_)
      refine r_icmp_ge (tgt := 66) S dX10_oddsOf_11 (by decide) hf (fun hf => ?_) (fun hf => ?_)
      · refine lv_lload_n hx hb dX10_oddsOf_66 rfl (lv_at hl 2 rfl) ?_
        refine lv_l2i (v := (Int64.toInt32 v1)) hx hb dX10_oddsOf_67 rfl ?_
        exact hret _ _ _ _ _ _ dX10_oddsOf_68 hP hS rfl hf
      · refine lv_lload_n hx hb dX10_oddsOf_14 rfl (lv_at hl 2 rfl) ?_
        refine lv_iconst (v := 2) hx hb dX10_oddsOf_15 (by decide) ?_
        refine lv_aload_n hx hb dX10_oddsOf_16 rfl (lv_at hl 0 rfl) ?_
        refine lv_aload_n hx hb dX10_oddsOf_17 rfl (lv_at hl 0 rfl) ?_
        refine gf_X10_7 S hK hP h0 dX10_oddsOf_18 hf (fun x5 hx5 hf => ?_)
        refine lv_aload_n hx hb dX10_oddsOf_21 rfl (lv_at hl 0 rfl) ?_
        refine lv_iload_n hx hb dX10_oddsOf_22 rfl (lv_at hl 1 rfl) ?_
        refine r_callV (As := [.int p1]) (rest := [.ref (ad x5), .ref (ad o), .int 2, .long v1]) S hK hE hst hP hS h0 (by decide) rfl (cw_X10_269 ht ⟨Nat.le_of_ble_eq_true rfl, Nat.le_of_ble_eq_true rfl⟩) rfl hl.1 rfl (Nat.le_of_ble_eq_true rfl) dX10_oddsOf_23 z2 (fun _ _ h => c_X10_lineAt hG  h0 h) hf (fun x6 M H locs hP hS bx6 hf => ?_)
        refine lv_aload_n hx hb dX10_oddsOf_26 rfl (lv_at hl 0 rfl) ?_
        refine gf_X10_278 S hK hP h0 dX10_oddsOf_27 hf (fun x7 hf => ?_)
        refine lv_iadd hx hb dX10_oddsOf_30 ?_
        refine lv_iload hx hb dX10_oddsOf_31 (lv_at hl 3 rfl) ?_
        refine lv_iadd hx hb dX10_oddsOf_33 ?_
        refine r_iald S hK hP hx5 dX10_oddsOf_34 hf (fun x8 hf => ?_)
        refine r_callV (As := [.int x8]) (rest := [.int 2, .long v1]) S hK hE hst hP hS h0 (by decide) rfl (cw_X10_128 ht ⟨Nat.le_of_ble_eq_true rfl, Nat.le_of_ble_eq_true rfl⟩) rfl hl.1 rfl (Nat.le_of_ble_eq_true rfl) dX10_oddsOf_35 z2 (fun _ _ h => c_X10_spreadOf hG  h0 h) hf (fun x9 M H locs hP hS bx9 hf => ?_)
        refine lv_imul hx hb dX10_oddsOf_38 ?_
        refine lv_iconst (v := 1) hx hb dX10_oddsOf_39 (by decide) ?_
        refine lv_iadd hx hb dX10_oddsOf_40 ?_
        refine lv_i2l (v := (Int32.toInt64 ((2 * x9) + 1))) hx hb dX10_oddsOf_41 rfl ?_
        refine lv_lmul hx hb dX10_oddsOf_42 ?_
        refine r_vl hf (fun x10 hf => ?_)
        refine lv_lstore_n (lv' := [(2, .long x10), (0, .ref (ad o)), (1, .int p1), (4, .int v2)]) hx hb dX10_oddsOf_43 rfl hl (by decide) rfl (fun ls hl => ?_)
        refine lv_lload_n hx hb dX10_oddsOf_44 rfl (lv_at hl 0 rfl) ?_
        refine lv_ldc2 (v := 1000000000) hx hb hown (ht _ k_1464) dX10_oddsOf_45 ?_
        refine W.lcmp hx hb dX10_oddsOf_48 ?_
        obtain ⟨k12, hk12, hf⟩ := jn_w hf
        have J12 : ∀ (v11 : Int64) (M : Mem) (H : Heap) (locs : List Loc) (ls : Array Slot), lv_has ls 5 [(0, .ref (ad o)), (1, .int p1), (4, .int v2)] → va_P D classes (gws K G2 ad M) H → va_S A s.heap H locs → k12 v11 M = some (r, M') → W p l e rm_X10_oddsOf s m args below meth c H locs 0 0 Q (F0 m 59 ls [.long v11]) := by
          intro v11 M H locs ls hl hP hS hf
          rw [hk12] at hf
          refine lv_lstore_n (lv' := [(2, .long v11), (0, .ref (ad o)), (1, .int p1), (4, .int v2)]) hx hb dX10_oddsOf_59 rfl hl (by decide) rfl (fun ls hl => ?_)
          refine lv_iinc (v := (v2 + 1)) (lv' := [(4, .int (v2 + 1)), (2, .long v11), (0, .ref (ad o)), (1, .int p1)]) hx hb dX10_oddsOf_60 hl (k := 3) rfl rfl (by decide) rfl (fun ls hl => ?_)
          refine lv_goto (tgt := 5) hx hb dX10_oddsOf_63 (by decide) ?_
          exact ih3 v11 (v2 + 1) M H locs ls (lv_sub hl [2, 3, 1, 0] rfl) hP hS hf
        refine r_if_le (tgt := 58) S dX10_oddsOf_49 (by decide) hf (fun hf => ?_) (fun hf => ?_)
        · refine lv_lload_n hx hb dX10_oddsOf_58 rfl (lv_at hl 0 rfl) ?_
          exact J12 x10 M H locs ls (lv_sub hl [1, 2, 3] rfl) hP hS hf
        · refine lv_ldc2 (v := 1000000000) hx hb hown (ht _ k_1464) dX10_oddsOf_52 ?_
          refine lv_goto (tgt := 59) hx hb dX10_oddsOf_55 (by decide) ?_
          exact J12 1000000000 M H locs ls (lv_sub hl [1, 2, 3] rfl) hP hS hf
  exact L3 _ 1 1 M H locs ls (lv_sub hl [2, 3, 1, 0] rfl) hP hS hf
theorem cw_X10_286 {R : Room} {s : State} {args : Array Value} (ht : ∀ w ∈ Tw, w.before args s = true) (hR : rm_X10_isPlaces.frames + 1 ≤ R.frames ∧ 8 + (1 + 11) + rm_X10_isPlaces.locals ≤ R.locals) : CallB R s args RX10 286 yX10_isPlaces cX10_isPlaces 1 (some .boolean) (ws_of yX10_isPlaces cX10_isPlaces 1 (some .boolean)) rm_X10_isPlaces 0 0 1 ∧ (Cond.static yX10_isPlaces).before args s = true := cw_S 1 ht k_1445 k_1446 k_73 k_1447 (by decide +kernel) rfl rfl hR
theorem cw_X10_289 {R : Room} {s : State} {args : Array Value} (ht : ∀ w ∈ Tw, w.before args s = true) (hR : rm_X10_findRun.frames + 1 ≤ R.frames ∧ 8 + (5 + 11) + rm_X10_findRun.locals ≤ R.locals) : CallW R s args RX10 RX10 289 yX10_findRun cX10_findRun 5 none (ws_of yX10_findRun cX10_findRun 5 none) rm_X10_findRun 0 0 2 := cw_V 2 ht k_1449 k_1451 k_50 k_73 k_1452 (by decide +kernel) rfl rfl hR
theorem cw_X10_292 {R : Room} {s : State} {args : Array Value} (ht : ∀ w ∈ Tw, w.before args s = true) (hR : rm_X10_oddsOf.frames + 1 ≤ R.frames ∧ 8 + (5 + 11) + rm_X10_oddsOf.locals ≤ R.locals) : CallW R s args RX10 RX10 292 yX10_oddsOf cX10_oddsOf 5 (some .int) (ws_of yX10_oddsOf cX10_oddsOf 5 (some .int)) rm_X10_oddsOf 0 0 1 := cw_V 1 ht k_1460 k_1462 k_52 k_73 k_1463 (by decide +kernel) rfl rfl hR
def f_X10_run (o : Nat) (p1 : Int32) (p2 : Int32) (p3 : Int32) (M : Mem) : Option (Int32 × Mem) :=
  bd (f_X10_isIn (Int32.toInt64 p1) 0 5 M) fun x1 M =>
  if x1 = 0 then
    some ((-1000000001), M)
  else
    bd (f_X10_isPlaces p2 M) fun x2 M =>
    if x2 = 0 then
      some ((-1000000001), M)
    else
      bd (f_X10_isIn (Int32.toInt64 p3) 0 2 M) fun x3 M =>
      if x3 = 0 then
        some ((-1000000001), M)
      else
        bd (f_X10_findRun o p1 p2 M) fun _ M =>
        if p3 = 0 then
          vv (M o 26) fun x11 =>
          some (x11, M)
        else
          if p3 = 2 then
            bd (f_X10_oddsOf o p1 M) fun x10 M =>
            some (x10, M)
          else
            vv (M o 26) fun x5 =>
            if x5 = 0 then
              some ((-1000000005), M)
            else
              vv (grf G2 o 0) fun x6 =>
              bd (f_X10_lineAt o p1 M) fun x7 M =>
              vv (M o 27) fun x8 =>
              ld M x6 (x7 + x8) 3510 fun x9 =>
              some (x9, M)
def rm_X10_run : Room := { frames := 5, cells := 0, slots := 0, locals := 115 }
set_option maxHeartbeats 4000000 in
set_option maxRecDepth 100000 in
theorem c_X10_run {l : Launch} {D : va_G} {K : Ks} {ad : Nat → Nat} {A : Nat → Prop} (hG : Gok G2 ad A) {o : Nat} {p1 : Int32} {p2 : Int32} {p3 : Int32} (h0 : gcl G2 o = 10) {M : Mem} {r : Int32} {M' : Mem} (hf : f_X10_run o p1 p2 p3 M = some (r, M')) : Ct l E2 D K G2 ad A yX10_run (ws_of yX10_run cX10_run 4 (some .int)) rm_X10_run .int [.ref (ad o), .int p1, .int p2, .int p3] M r M' := by
  have hst : Est A E2 := est2
  refine Ct.ofW (by decide) (Nat.le_of_ble_eq_true rfl) ?_
  intro p e s m args below meth c Q H locs ls S hK hE hP hS hl hret
  have hx := S.1
  have hb := S.2.1
  have hown := S.2.2.2.1
  have ht := S.2.2.2.2
  have hl : lv_has ls 4 [(0, .ref (ad o)), (1, .int p1), (2, .int p2), (3, .int p3)] := hl
  unfold f_X10_run at hf
  refine lv_iload_n hx hb dX10_run_0 rfl (lv_at hl 1 rfl) ?_
  refine lv_i2l (v := (Int32.toInt64 p1)) hx hb dX10_run_1 rfl ?_
  refine lv_lconst (v := 0) hx hb dX10_run_2 (by decide) ?_
  refine lv_ldc2 (v := 5) hx hb hown (ht _ k_1436) dX10_run_3 ?_
  refine r_callS (As := [.long (Int32.toInt64 p1), .long 0, .long 5]) (rest := []) S hK hE hst hP hS (cw_X10_74 ht ⟨Nat.le_of_ble_eq_true rfl, Nat.le_of_ble_eq_true rfl⟩) rfl hl.1 rfl (Nat.le_of_ble_eq_true rfl) dX10_run_6 z2 (fun _ _ h => c_X10_isIn hG  h) hf (fun x1 M H locs hP hS bx1 hf => ?_)
  refine r_if_eq (tgt := 31) S dX10_run_9 (by decide) hf (fun hf => ?_) (fun hf => ?_)
  · refine lv_ldc (v := (-1000000001)) hx hb hown (ht _ k_1232) dX10_run_31 ?_
    exact hret _ _ _ _ _ _ dX10_run_33 hP hS rfl hf
  · refine lv_iload_n hx hb dX10_run_12 rfl (lv_at hl 2 rfl) ?_
    refine r_callS (As := [.int p2]) (rest := []) S hK hE hst hP hS (cw_X10_286 ht ⟨Nat.le_of_ble_eq_true rfl, Nat.le_of_ble_eq_true rfl⟩) rfl hl.1 rfl (Nat.le_of_ble_eq_true rfl) dX10_run_13 z2 (fun _ _ h => c_X10_isPlaces hG  h) hf (fun x2 M H locs hP hS bx2 hf => ?_)
    refine r_if_eq (tgt := 31) S dX10_run_16 (by decide) hf (fun hf => ?_) (fun hf => ?_)
    · refine lv_ldc (v := (-1000000001)) hx hb hown (ht _ k_1232) dX10_run_31 ?_
      exact hret _ _ _ _ _ _ dX10_run_33 hP hS rfl hf
    · refine lv_iload_n hx hb dX10_run_19 rfl (lv_at hl 3 rfl) ?_
      refine lv_i2l (v := (Int32.toInt64 p3)) hx hb dX10_run_20 rfl ?_
      refine lv_lconst (v := 0) hx hb dX10_run_21 (by decide) ?_
      refine lv_ldc2 (v := 2) hx hb hown (ht _ k_1426) dX10_run_22 ?_
      refine r_callS (As := [.long (Int32.toInt64 p3), .long 0, .long 2]) (rest := []) S hK hE hst hP hS (cw_X10_74 ht ⟨Nat.le_of_ble_eq_true rfl, Nat.le_of_ble_eq_true rfl⟩) rfl hl.1 rfl (Nat.le_of_ble_eq_true rfl) dX10_run_25 z2 (fun _ _ h => c_X10_isIn hG  h) hf (fun x3 M H locs hP hS bx3 hf => ?_)
      refine r_if_ne (tgt := 34) S dX10_run_28 (by decide) hf (fun hf => ?_) (fun hf => ?_)
      · refine lv_aload_n hx hb dX10_run_34 rfl (lv_at hl 0 rfl) ?_
        refine lv_iload_n hx hb dX10_run_35 rfl (lv_at hl 1 rfl) ?_
        refine lv_iload_n hx hb dX10_run_36 rfl (lv_at hl 2 rfl) ?_
        refine r_callVv (As := [.int p1, .int p2]) (rest := []) S hK hE hst hP hS h0 (by decide) rfl (cw_X10_289 ht ⟨Nat.le_of_ble_eq_true rfl, Nat.le_of_ble_eq_true rfl⟩) rfl hl.1 rfl (Nat.le_of_ble_eq_true rfl) dX10_run_37 z2 (fun _ _ h => c_X10_findRun hG  h0 h) hf (fun x4 M H locs hP hS hf => ?_)
        refine lv_iload_n hx hb dX10_run_40 rfl (lv_at hl 3 rfl) ?_
        refine r_if_ne (tgt := 51) S dX10_run_41 (by decide) hf (fun hf => ?_) (fun hf => ?_)
        · refine lv_iload_n hx hb dX10_run_51 rfl (lv_at hl 3 rfl) ?_
          refine lv_iconst (v := 2) hx hb dX10_run_52 (by decide) ?_
          refine r_icmp_ne (tgt := 64) S dX10_run_53 (by decide) hf (fun hf => ?_) (fun hf => ?_)
          · refine lv_aload_n hx hb dX10_run_64 rfl (lv_at hl 0 rfl) ?_
            refine gf_X10_275 S hK hP h0 dX10_run_65 hf (fun x5 hf => ?_)
            refine r_if_ne (tgt := 76) S dX10_run_68 (by decide) hf (fun hf => ?_) (fun hf => ?_)
            · refine lv_aload_n hx hb dX10_run_76 rfl (lv_at hl 0 rfl) ?_
              refine gf_X10_7 S hK hP h0 dX10_run_77 hf (fun x6 hx6 hf => ?_)
              refine lv_aload_n hx hb dX10_run_80 rfl (lv_at hl 0 rfl) ?_
              refine lv_iload_n hx hb dX10_run_81 rfl (lv_at hl 1 rfl) ?_
              refine r_callV (As := [.int p1]) (rest := [.ref (ad x6)]) S hK hE hst hP hS h0 (by decide) rfl (cw_X10_269 ht ⟨Nat.le_of_ble_eq_true rfl, Nat.le_of_ble_eq_true rfl⟩) rfl hl.1 rfl (Nat.le_of_ble_eq_true rfl) dX10_run_82 z2 (fun _ _ h => c_X10_lineAt hG  h0 h) hf (fun x7 M H locs hP hS bx7 hf => ?_)
              refine lv_aload_n hx hb dX10_run_85 rfl (lv_at hl 0 rfl) ?_
              refine gf_X10_278 S hK hP h0 dX10_run_86 hf (fun x8 hf => ?_)
              refine lv_iadd hx hb dX10_run_89 ?_
              refine r_iald S hK hP hx6 dX10_run_90 hf (fun x9 hf => ?_)
              exact hret _ _ _ _ _ _ dX10_run_91 hP hS rfl hf
            · refine lv_ldc (v := (-1000000005)) hx hb hown (ht _ k_1268) dX10_run_71 ?_
              refine lv_goto (tgt := 91) hx hb dX10_run_73 (by decide) ?_
              exact hret _ _ _ _ _ _ dX10_run_91 hP hS rfl hf
          · refine lv_aload_n hx hb dX10_run_56 rfl (lv_at hl 0 rfl) ?_
            refine lv_iload_n hx hb dX10_run_57 rfl (lv_at hl 1 rfl) ?_
            refine r_callV (As := [.int p1]) (rest := []) S hK hE hst hP hS h0 (by decide) rfl (cw_X10_292 ht ⟨Nat.le_of_ble_eq_true rfl, Nat.le_of_ble_eq_true rfl⟩) rfl hl.1 rfl (Nat.le_of_ble_eq_true rfl) dX10_run_58 z2 (fun _ _ h => c_X10_oddsOf hG  h0 h) hf (fun x10 M H locs hP hS bx10 hf => ?_)
            refine lv_goto (tgt := 91) hx hb dX10_run_61 (by decide) ?_
            exact hret _ _ _ _ _ _ dX10_run_91 hP hS rfl hf
        · refine lv_aload_n hx hb dX10_run_44 rfl (lv_at hl 0 rfl) ?_
          refine gf_X10_275 S hK hP h0 dX10_run_45 hf (fun x11 hf => ?_)
          refine lv_goto (tgt := 91) hx hb dX10_run_48 (by decide) ?_
          exact hret _ _ _ _ _ _ dX10_run_91 hP hS rfl hf
      · refine lv_ldc (v := (-1000000001)) hx hb hown (ht _ k_1232) dX10_run_31 ?_
        exact hret _ _ _ _ _ _ dX10_run_33 hP hS rfl hf
def f_X10_soon (o : Nat) (p1 : Int32) (p2 : Int32) (M : Mem) : Option (Int32 × Mem) :=
  bd (f_X10_isIn (Int32.toInt64 p1) 2 12 M) fun x1 M =>
  if x1 = 0 then
    some ((-1000000001), M)
  else
    bd (f_X10_isPlaces p2 M) fun x2 M =>
    if x2 = 0 then
      some ((-1000000001), M)
    else
      it2 (fun rc5 (v3 : Int32) (v4 : Int32) M =>
        if v4 < 6 then
          it3 (fun rc10 (v7 : Int32) (v8 : Int32) (v9 : Int32) M =>
            vv (grf G2 o 0) fun x11 =>
            bd (f_X10_lineAt o v4 M) fun x12 M =>
            ld M x11 x12 3510 fun x13 =>
            if x13 < v9 then
              rc5 v7 (v4 + 1) M
            else
              jn (fun (v14 : Int32) (M : Mem) =>
                vv (grf G2 o 0) fun x16 =>
                bd (f_X10_lineAt o v4 M) fun x17 M =>
                ld M x16 (x17 + v9) 3510 fun x18 =>
                bd (f_X10_yearOf o x18 M) fun x19 M =>
                if v14 < p1 then
                  rc10 v7 v14 (v9 + 1) M
                else
                  if v7 < 0 then
                    rc10 x19 v14 (v9 + 1) M
                  else
                    if x19 < v7 then
                      rc10 x19 v14 (v9 + 1) M
                    else
                      rc10 v7 v14 (v9 + 1) M
              ) fun k15 =>
              if 1 < v9 then
                bd (f_X10_inLine o v4 v9 p2 M) fun x20 M =>
                bd (f_X10_inLine o v4 (v9 - 1) p2 M) fun x21 M =>
                if x20 = x21 then
                  k15 (v8 + 1) M
                else
                  k15 1 M
              else
                k15 1 M
          ) fuel v3 0 1 M
        else
          bd (f_X10_orNone v3 M) fun x6 M =>
          some (x6, M)
      ) fuel (-1) 0 M
def rm_X10_soon : Room := { frames := 2, cells := 0, slots := 0, locals := 45 }
set_option maxHeartbeats 4000000 in
set_option maxRecDepth 100000 in
theorem c_X10_soon {l : Launch} {D : va_G} {K : Ks} {ad : Nat → Nat} {A : Nat → Prop} (hG : Gok G2 ad A) {o : Nat} {p1 : Int32} {p2 : Int32} (h0 : gcl G2 o = 10) {M : Mem} {r : Int32} {M' : Mem} (hf : f_X10_soon o p1 p2 M = some (r, M')) : Ct l E2 D K G2 ad A yX10_soon (ws_of yX10_soon cX10_soon 8 (some .int)) rm_X10_soon .int [.ref (ad o), .int p1, .int p2] M r M' := by
  have hst : Est A E2 := est2
  refine Ct.ofW (by decide) (Nat.le_of_ble_eq_true rfl) ?_
  intro p e s m args below meth c Q H locs ls S hK hE hP hS hl hret
  have hx := S.1
  have hb := S.2.1
  have hown := S.2.2.2.1
  have ht := S.2.2.2.2
  have hl : lv_has ls 8 [(0, .ref (ad o)), (1, .int p1), (2, .int p2)] := hl
  unfold f_X10_soon at hf
  refine lv_iload_n hx hb dX10_soon_0 rfl (lv_at hl 1 rfl) ?_
  refine lv_i2l (v := (Int32.toInt64 p1)) hx hb dX10_soon_1 rfl ?_
  refine lv_ldc2 (v := 2) hx hb hown (ht _ k_1426) dX10_soon_2 ?_
  refine lv_ldc2 (v := 12) hx hb hown (ht _ k_1469) dX10_soon_5 ?_
  refine r_callS (As := [.long (Int32.toInt64 p1), .long 2, .long 12]) (rest := []) S hK hE hst hP hS (cw_X10_74 ht ⟨Nat.le_of_ble_eq_true rfl, Nat.le_of_ble_eq_true rfl⟩) rfl hl.1 rfl (Nat.le_of_ble_eq_true rfl) dX10_soon_8 z2 (fun _ _ h => c_X10_isIn hG  h) hf (fun x1 M H locs hP hS bx1 hf => ?_)
  refine r_if_eq (tgt := 21) S dX10_soon_11 (by decide) hf (fun hf => ?_) (fun hf => ?_)
  · refine lv_ldc (v := (-1000000001)) hx hb hown (ht _ k_1232) dX10_soon_21 ?_
    exact hret _ _ _ _ _ _ dX10_soon_23 hP hS rfl hf
  · refine lv_iload_n hx hb dX10_soon_14 rfl (lv_at hl 2 rfl) ?_
    refine r_callS (As := [.int p2]) (rest := []) S hK hE hst hP hS (cw_X10_286 ht ⟨Nat.le_of_ble_eq_true rfl, Nat.le_of_ble_eq_true rfl⟩) rfl hl.1 rfl (Nat.le_of_ble_eq_true rfl) dX10_soon_15 z2 (fun _ _ h => c_X10_isPlaces hG  h) hf (fun x2 M H locs hP hS bx2 hf => ?_)
    refine r_if_ne (tgt := 24) S dX10_soon_18 (by decide) hf (fun hf => ?_) (fun hf => ?_)
    · refine lv_iconst (v := (-1)) hx hb dX10_soon_24 (by decide) ?_
      refine lv_istore_n (lv' := [(3, .int (-1)), (0, .ref (ad o)), (1, .int p1), (2, .int p2)]) hx hb dX10_soon_25 rfl hl (by decide) rfl (fun ls hl => ?_)
      refine lv_iconst (v := 0) hx hb dX10_soon_26 (by decide) ?_
      refine lv_istore (lv' := [(4, .int 0), (3, .int (-1)), (0, .ref (ad o)), (1, .int p1), (2, .int p2)]) hx hb dX10_soon_27 hl (by decide) rfl (fun ls hl => ?_)
      obtain ⟨F5, hF5, hf⟩ := it2_g hf
      have L5 : ∀ (n : Nat) (v3 : Int32) (v4 : Int32) (M : Mem) (H : Heap) (locs : List Loc) (ls : Array Slot), lv_has ls 8 [(0, .ref (ad o)), (1, .int p1), (2, .int p2), (3, .int v3), (4, .int v4)] → va_P D classes (gws K G2 ad M) H → va_S A s.heap H locs → it2 F5 n v3 v4 M = some (r, M') → W p l e rm_X10_soon s m args below meth c H locs 0 0 Q (F0 m 29 ls []) := by
        intro n
        induction n with
        | zero => intro v3 v4 M H locs ls hl hP hS hf; exact nomatch hf
        | succ n ih5 =>
          intro v3 v4 M H locs ls hl hP hS hf
          obtain ⟨rc5, hrc5, hf⟩ := it2_w hf
          rw [← hrc5] at ih5
          rw [hF5] at hf
          refine lv_iload hx hb dX10_soon_29 (lv_at hl 4 rfl) ?_
          refine lv_bipush (v := 6) hx hb dX10_soon_31 (by decide) ?_
          refine r_icmp_ge (tgt := 152) S dX10_soon_33 (by decide) hf (fun hf => ?_) (fun hf => ?_)
          · refine lv_iload_n hx hb dX10_soon_152 rfl (lv_at hl 3 rfl) ?_
            refine r_callS (As := [.int v3]) (rest := []) S hK hE hst hP hS (cw_X10_141 ht ⟨Nat.le_of_ble_eq_true rfl, Nat.le_of_ble_eq_true rfl⟩) rfl hl.1 rfl (Nat.le_of_ble_eq_true rfl) dX10_soon_153 z2 (fun _ _ h => c_X10_orNone hG  h) hf (fun x6 M H locs hP hS bx6 hf => ?_)
            exact hret _ _ _ _ _ _ dX10_soon_156 hP hS rfl hf
          · refine lv_iconst (v := 0) hx hb dX10_soon_36 (by decide) ?_
            refine lv_istore (lv' := [(5, .int 0), (0, .ref (ad o)), (1, .int p1), (2, .int p2), (3, .int v3), (4, .int v4)]) hx hb dX10_soon_37 hl (by decide) rfl (fun ls hl => ?_)
            refine lv_iconst (v := 1) hx hb dX10_soon_39 (by decide) ?_
            refine lv_istore (lv' := [(6, .int 1), (5, .int 0), (0, .ref (ad o)), (1, .int p1), (2, .int p2), (3, .int v3), (4, .int v4)]) hx hb dX10_soon_40 hl (by decide) rfl (fun ls hl => ?_)
            obtain ⟨F10, hF10, hf⟩ := it3_g hf
            have L10 : ∀ (n : Nat) (v7 : Int32) (v8 : Int32) (v9 : Int32) (M : Mem) (H : Heap) (locs : List Loc) (ls : Array Slot), lv_has ls 8 [(0, .ref (ad o)), (1, .int p1), (2, .int p2), (3, .int v7), (4, .int v4), (5, .int v8), (6, .int v9)] → va_P D classes (gws K G2 ad M) H → va_S A s.heap H locs → it3 F10 n v7 v8 v9 M = some (r, M') → W p l e rm_X10_soon s m args below meth c H locs 0 0 Q (F0 m 42 ls []) := by
              intro n
              induction n with
              | zero => intro v7 v8 v9 M H locs ls hl hP hS hf; exact nomatch hf
              | succ n ih10 =>
                intro v7 v8 v9 M H locs ls hl hP hS hf
                obtain ⟨rc10, hrc10, hf⟩ := it3_w hf
                rw [← hrc10] at ih10
                rw [hF10] at hf
                refine lv_iload hx hb dX10_soon_42 (lv_at hl 6 rfl) ?_
                refine lv_aload_n hx hb dX10_soon_44 rfl (lv_at hl 0 rfl) ?_
                refine gf_X10_7 S hK hP h0 dX10_soon_45 hf (fun x11 hx11 hf => ?_)
                refine lv_aload_n hx hb dX10_soon_48 rfl (lv_at hl 0 rfl) ?_
                refine lv_iload hx hb dX10_soon_49 (lv_at hl 4 rfl) ?_
                refine r_callV (As := [.int v4]) (rest := [.ref (ad x11), .int v9]) S hK hE hst hP hS h0 (by decide) rfl (cw_X10_269 ht ⟨Nat.le_of_ble_eq_true rfl, Nat.le_of_ble_eq_true rfl⟩) rfl hl.1 rfl (Nat.le_of_ble_eq_true rfl) dX10_soon_51 z2 (fun _ _ h => c_X10_lineAt hG  h0 h) hf (fun x12 M H locs hP hS bx12 hf => ?_)
                refine r_iald S hK hP hx11 dX10_soon_54 hf (fun x13 hf => ?_)
                refine r_icmp_gt (tgt := 146) S dX10_soon_55 (by decide) hf (fun hf => ?_) (fun hf => ?_)
                · refine lv_iinc (v := (v4 + 1)) (lv' := [(4, .int (v4 + 1)), (0, .ref (ad o)), (1, .int p1), (2, .int p2), (3, .int v7), (5, .int v8), (6, .int v9)]) hx hb dX10_soon_146 hl (k := 4) rfl rfl (by decide) rfl (fun ls hl => ?_)
                  refine lv_goto (tgt := 29) hx hb dX10_soon_149 (by decide) ?_
                  exact ih5 v7 (v4 + 1) M H locs ls (lv_sub hl [1, 2, 3, 4, 0] rfl) hP hS hf
                · refine lv_iload hx hb dX10_soon_58 (lv_at hl 6 rfl) ?_
                  refine lv_iconst (v := 1) hx hb dX10_soon_60 (by decide) ?_
                  obtain ⟨k15, hk15, hf⟩ := jn_w hf
                  have J15 : ∀ (v14 : Int32) (M : Mem) (H : Heap) (locs : List Loc) (ls : Array Slot), lv_has ls 8 [(0, .ref (ad o)), (1, .int p1), (2, .int p2), (3, .int v7), (4, .int v4), (6, .int v9)] → va_P D classes (gws K G2 ad M) H → va_S A s.heap H locs → k15 v14 M = some (r, M') → W p l e rm_X10_soon s m args below meth c H locs 0 0 Q (F0 m 95 ls [.int v14]) := by
                    intro v14 M H locs ls hl hP hS hf
                    rw [hk15] at hf
                    refine lv_istore (lv' := [(5, .int v14), (0, .ref (ad o)), (1, .int p1), (2, .int p2), (3, .int v7), (4, .int v4), (6, .int v9)]) hx hb dX10_soon_95 hl (by decide) rfl (fun ls hl => ?_)
                    refine lv_aload_n hx hb dX10_soon_97 rfl (lv_at hl 1 rfl) ?_
                    refine lv_aload_n hx hb dX10_soon_98 rfl (lv_at hl 1 rfl) ?_
                    refine gf_X10_7 S hK hP h0 dX10_soon_99 hf (fun x16 hx16 hf => ?_)
                    refine lv_aload_n hx hb dX10_soon_102 rfl (lv_at hl 1 rfl) ?_
                    refine lv_iload hx hb dX10_soon_103 (lv_at hl 5 rfl) ?_
                    refine r_callV (As := [.int v4]) (rest := [.ref (ad x16), .ref (ad o)]) S hK hE hst hP hS h0 (by decide) rfl (cw_X10_269 ht ⟨Nat.le_of_ble_eq_true rfl, Nat.le_of_ble_eq_true rfl⟩) rfl hl.1 rfl (Nat.le_of_ble_eq_true rfl) dX10_soon_105 z2 (fun _ _ h => c_X10_lineAt hG  h0 h) hf (fun x17 M H locs hP hS bx17 hf => ?_)
                    refine lv_iload hx hb dX10_soon_108 (lv_at hl 6 rfl) ?_
                    refine lv_iadd hx hb dX10_soon_110 ?_
                    refine r_iald S hK hP hx16 dX10_soon_111 hf (fun x18 hf => ?_)
                    refine r_callV (As := [.int x18]) (rest := []) S hK hE hst hP hS h0 (by decide) rfl (cw_X10_122 ht ⟨Nat.le_of_ble_eq_true rfl, Nat.le_of_ble_eq_true rfl⟩) rfl hl.1 rfl (Nat.le_of_ble_eq_true rfl) dX10_soon_112 z2 (fun _ _ h => c_X10_yearOf hG  h0 h) hf (fun x19 M H locs hP hS bx19 hf => ?_)
                    refine lv_istore (lv' := [(7, .int x19), (5, .int v14), (0, .ref (ad o)), (1, .int p1), (2, .int p2), (3, .int v7), (4, .int v4), (6, .int v9)]) hx hb dX10_soon_115 hl (by decide) rfl (fun ls hl => ?_)
                    refine lv_iload hx hb dX10_soon_117 (lv_at hl 1 rfl) ?_
                    refine lv_iload_n hx hb dX10_soon_119 rfl (lv_at hl 3 rfl) ?_
                    refine r_icmp_lt (tgt := 138) S dX10_soon_120 (by decide) hf (fun hf => ?_) (fun hf => ?_)
                    · refine lv_iload_n hx hb dX10_soon_138 rfl (lv_at hl 5 rfl) ?_
                      refine lv_istore_n (lv' := [(3, .int v7), (7, .int x19), (5, .int v14), (0, .ref (ad o)), (1, .int p1), (2, .int p2), (4, .int v4), (6, .int v9)]) hx hb dX10_soon_139 rfl hl (by decide) rfl (fun ls hl => ?_)
                      refine lv_iinc (v := (v9 + 1)) (lv' := [(6, .int (v9 + 1)), (3, .int v7), (7, .int x19), (5, .int v14), (0, .ref (ad o)), (1, .int p1), (2, .int p2), (4, .int v4)]) hx hb dX10_soon_140 hl (k := 7) rfl rfl (by decide) rfl (fun ls hl => ?_)
                      refine lv_goto (tgt := 42) hx hb dX10_soon_143 (by decide) ?_
                      exact ih10 v7 v14 (v9 + 1) M H locs ls (lv_sub hl [4, 5, 6, 1, 7, 3, 0] rfl) hP hS hf
                    · refine lv_iload_n hx hb dX10_soon_123 rfl (lv_at hl 5 rfl) ?_
                      refine r_if_lt (tgt := 133) S dX10_soon_124 (by decide) hf (fun hf => ?_) (fun hf => ?_)
                      · refine lv_iload hx hb dX10_soon_133 (lv_at hl 0 rfl) ?_
                        refine lv_goto (tgt := 139) hx hb dX10_soon_135 (by decide) ?_
                        refine lv_istore_n (lv' := [(3, .int x19), (7, .int x19), (5, .int v14), (0, .ref (ad o)), (1, .int p1), (2, .int p2), (4, .int v4), (6, .int v9)]) hx hb dX10_soon_139 rfl hl (by decide) rfl (fun ls hl => ?_)
                        refine lv_iinc (v := (v9 + 1)) (lv' := [(6, .int (v9 + 1)), (3, .int x19), (7, .int x19), (5, .int v14), (0, .ref (ad o)), (1, .int p1), (2, .int p2), (4, .int v4)]) hx hb dX10_soon_140 hl (k := 7) rfl rfl (by decide) rfl (fun ls hl => ?_)
                        refine lv_goto (tgt := 42) hx hb dX10_soon_143 (by decide) ?_
                        exact ih10 x19 v14 (v9 + 1) M H locs ls (lv_sub hl [4, 5, 6, 1, 7, 3, 0] rfl) hP hS hf
                      · refine lv_iload hx hb dX10_soon_127 (lv_at hl 0 rfl) ?_
                        refine lv_iload_n hx hb dX10_soon_129 rfl (lv_at hl 5 rfl) ?_
                        refine r_icmp_ge (tgt := 138) S dX10_soon_130 (by decide) hf (fun hf => ?_) (fun hf => ?_)
                        · refine lv_iload_n hx hb dX10_soon_138 rfl (lv_at hl 5 rfl) ?_
                          refine lv_istore_n (lv' := [(3, .int v7), (7, .int x19), (5, .int v14), (0, .ref (ad o)), (1, .int p1), (2, .int p2), (4, .int v4), (6, .int v9)]) hx hb dX10_soon_139 rfl hl (by decide) rfl (fun ls hl => ?_)
                          refine lv_iinc (v := (v9 + 1)) (lv' := [(6, .int (v9 + 1)), (3, .int v7), (7, .int x19), (5, .int v14), (0, .ref (ad o)), (1, .int p1), (2, .int p2), (4, .int v4)]) hx hb dX10_soon_140 hl (k := 7) rfl rfl (by decide) rfl (fun ls hl => ?_)
                          refine lv_goto (tgt := 42) hx hb dX10_soon_143 (by decide) ?_
                          exact ih10 v7 v14 (v9 + 1) M H locs ls (lv_sub hl [4, 5, 6, 1, 7, 3, 0] rfl) hP hS hf
                        · refine lv_iload hx hb dX10_soon_133 (lv_at hl 0 rfl) ?_
                          refine lv_goto (tgt := 139) hx hb dX10_soon_135 (by decide) ?_
                          refine lv_istore_n (lv' := [(3, .int x19), (7, .int x19), (5, .int v14), (0, .ref (ad o)), (1, .int p1), (2, .int p2), (4, .int v4), (6, .int v9)]) hx hb dX10_soon_139 rfl hl (by decide) rfl (fun ls hl => ?_)
                          refine lv_iinc (v := (v9 + 1)) (lv' := [(6, .int (v9 + 1)), (3, .int x19), (7, .int x19), (5, .int v14), (0, .ref (ad o)), (1, .int p1), (2, .int p2), (4, .int v4)]) hx hb dX10_soon_140 hl (k := 7) rfl rfl (by decide) rfl (fun ls hl => ?_)
                          refine lv_goto (tgt := 42) hx hb dX10_soon_143 (by decide) ?_
                          exact ih10 x19 v14 (v9 + 1) M H locs ls (lv_sub hl [4, 5, 6, 1, 7, 3, 0] rfl) hP hS hf
                  refine r_icmp_le (tgt := 94) S dX10_soon_61 (by decide) hf (fun hf => ?_) (fun hf => ?_)
                  · refine lv_iconst (v := 1) hx hb dX10_soon_94 (by decide) ?_
                    exact J15 1 M H locs ls (lv_sub hl [0, 1, 2, 3, 4, 6] rfl) hP hS hf
                  · refine lv_aload_n hx hb dX10_soon_64 rfl (lv_at hl 0 rfl) ?_
                    refine lv_iload hx hb dX10_soon_65 (lv_at hl 4 rfl) ?_
                    refine lv_iload hx hb dX10_soon_67 (lv_at hl 6 rfl) ?_
                    refine lv_iload_n hx hb dX10_soon_69 rfl (lv_at hl 2 rfl) ?_
                    refine r_callV (As := [.int v4, .int v9, .int p2]) (rest := []) S hK hE hst hP hS h0 (by decide) rfl (cw_X10_281 ht ⟨Nat.le_of_ble_eq_true rfl, Nat.le_of_ble_eq_true rfl⟩) rfl hl.1 rfl (Nat.le_of_ble_eq_true rfl) dX10_soon_70 z2 (fun _ _ h => c_X10_inLine hG  h0 h) hf (fun x20 M H locs hP hS bx20 hf => ?_)
                    refine lv_aload_n hx hb dX10_soon_73 rfl (lv_at hl 0 rfl) ?_
                    refine lv_iload hx hb dX10_soon_74 (lv_at hl 4 rfl) ?_
                    refine lv_iload hx hb dX10_soon_76 (lv_at hl 6 rfl) ?_
                    refine lv_iconst (v := 1) hx hb dX10_soon_78 (by decide) ?_
                    refine lv_isub hx hb dX10_soon_79 ?_
                    refine lv_iload_n hx hb dX10_soon_80 rfl (lv_at hl 2 rfl) ?_
                    refine r_callV (As := [.int v4, .int (v9 - 1), .int p2]) (rest := [.int x20]) S hK hE hst hP hS h0 (by decide) rfl (cw_X10_281 ht ⟨Nat.le_of_ble_eq_true rfl, Nat.le_of_ble_eq_true rfl⟩) rfl hl.1 rfl (Nat.le_of_ble_eq_true rfl) dX10_soon_81 z2 (fun _ _ h => c_X10_inLine hG  h0 h) hf (fun x21 M H locs hP hS bx21 hf => ?_)
                    refine r_icmp_ne (tgt := 94) S dX10_soon_84 (by decide) hf (fun hf => ?_) (fun hf => ?_)
                    · refine lv_iconst (v := 1) hx hb dX10_soon_94 (by decide) ?_
                      exact J15 1 M H locs ls (lv_sub hl [0, 1, 2, 3, 4, 6] rfl) hP hS hf
                    · refine lv_iload hx hb dX10_soon_87 (lv_at hl 5 rfl) ?_
                      refine lv_iconst (v := 1) hx hb dX10_soon_89 (by decide) ?_
                      refine lv_iadd hx hb dX10_soon_90 ?_
                      refine lv_goto (tgt := 95) hx hb dX10_soon_91 (by decide) ?_
                      exact J15 (v8 + 1) M H locs ls (lv_sub hl [0, 1, 2, 3, 4, 6] rfl) hP hS hf
            exact L10 _ v3 0 1 M H locs ls (lv_sub hl [2, 3, 4, 5, 6, 1, 0] rfl) hP hS hf
      exact L5 _ (-1) 0 M H locs ls (lv_sub hl [2, 3, 4, 1, 0] rfl) hP hS hf
    · refine lv_ldc (v := (-1000000001)) hx hb hown (ht _ k_1232) dX10_soon_21 ?_
      exact hret _ _ _ _ _ _ dX10_soon_23 hP hS rfl hf
def f_X10_digitOf (o : Nat) (p1 : Int32) (M : Mem) : Option (Int32 × Mem) :=
  it2 (fun rc3 (v1 : Int32) (v2 : Int32) M =>
    vv (grf G2 o 0) fun x4 =>
    ld M x4 1 3510 fun x5 =>
    if v2 < x5 then
      vv (grf G2 o 0) fun x6 =>
      bd (f_X10_figureAt o v2 M) fun x7 M =>
      ld M x6 (x7 + 2) 3510 fun x8 =>
      if (jr x8 10) = p1 then
        vv (v1 + 1) fun x10 =>
        rc3 x10 (v2 + 1) M
      else
        vv (v1 + 0) fun x9 =>
        rc3 x9 (v2 + 1) M
    else
      some (v1, M)
  ) fuel 0 0 M
def rm_X10_digitOf : Room := { frames := 1, cells := 0, slots := 0, locals := 21 }
set_option maxHeartbeats 4000000 in
set_option maxRecDepth 100000 in
theorem c_X10_digitOf {l : Launch} {D : va_G} {K : Ks} {ad : Nat → Nat} {A : Nat → Prop} (hG : Gok G2 ad A) {o : Nat} {p1 : Int32} (h0 : gcl G2 o = 10) {M : Mem} {r : Int32} {M' : Mem} (hf : f_X10_digitOf o p1 M = some (r, M')) : Ct l E2 D K G2 ad A yX10_digitOf (ws_of yX10_digitOf cX10_digitOf 4 (some .int)) rm_X10_digitOf .int [.ref (ad o), .int p1] M r M' := by
  have hst : Est A E2 := est2
  refine Ct.ofW (by decide) (Nat.le_of_ble_eq_true rfl) ?_
  intro p e s m args below meth c Q H locs ls S hK hE hP hS hl hret
  have hx := S.1
  have hb := S.2.1
  have hown := S.2.2.2.1
  have ht := S.2.2.2.2
  have hl : lv_has ls 4 [(0, .ref (ad o)), (1, .int p1)] := hl
  unfold f_X10_digitOf at hf
  refine lv_iconst (v := 0) hx hb dX10_digitOf_0 (by decide) ?_
  refine lv_istore_n (lv' := [(2, .int 0), (0, .ref (ad o)), (1, .int p1)]) hx hb dX10_digitOf_1 rfl hl (by decide) rfl (fun ls hl => ?_)
  refine lv_iconst (v := 0) hx hb dX10_digitOf_2 (by decide) ?_
  refine lv_istore_n (lv' := [(3, .int 0), (2, .int 0), (0, .ref (ad o)), (1, .int p1)]) hx hb dX10_digitOf_3 rfl hl (by decide) rfl (fun ls hl => ?_)
  obtain ⟨F3, hF3, hf⟩ := it2_g hf
  have L3 : ∀ (n : Nat) (v1 : Int32) (v2 : Int32) (M : Mem) (H : Heap) (locs : List Loc) (ls : Array Slot), lv_has ls 4 [(0, .ref (ad o)), (1, .int p1), (2, .int v1), (3, .int v2)] → va_P D classes (gws K G2 ad M) H → va_S A s.heap H locs → it2 F3 n v1 v2 M = some (r, M') → W p l e rm_X10_digitOf s m args below meth c H locs 0 0 Q (F0 m 4 ls []) := by
    intro n
    induction n with
    | zero => intro v1 v2 M H locs ls hl hP hS hf; exact nomatch hf
    | succ n ih3 =>
      intro v1 v2 M H locs ls hl hP hS hf
      obtain ⟨rc3, hrc3, hf⟩ := it2_w hf
      rw [← hrc3] at ih3
      rw [hF3] at hf
      refine lv_iload_n hx hb dX10_digitOf_4 rfl (lv_at hl 3 rfl) ?_
      refine lv_aload_n hx hb dX10_digitOf_5 rfl (lv_at hl 0 rfl) ?_
      refine gf_X10_7 S hK hP h0 dX10_digitOf_6 hf (fun x4 hx4 hf => ?_)
      refine lv_iconst (v := 1) hx hb dX10_digitOf_9 (by decide) ?_
      refine r_iald S hK hP hx4 dX10_digitOf_10 hf (fun x5 hf => ?_)
      refine r_icmp_ge (tgt := 47) S dX10_digitOf_11 (by decide) hf (fun hf => ?_) (fun hf => ?_)
      · refine lv_iload_n hx hb dX10_digitOf_47 rfl (lv_at hl 2 rfl) ?_
        exact hret _ _ _ _ _ _ dX10_digitOf_48 hP hS rfl hf
      · refine lv_iload_n hx hb dX10_digitOf_14 rfl (lv_at hl 2 rfl) ?_
        refine lv_aload_n hx hb dX10_digitOf_15 rfl (lv_at hl 0 rfl) ?_
        refine gf_X10_7 S hK hP h0 dX10_digitOf_16 hf (fun x6 hx6 hf => ?_)
        refine lv_aload_n hx hb dX10_digitOf_19 rfl (lv_at hl 0 rfl) ?_
        refine lv_iload_n hx hb dX10_digitOf_20 rfl (lv_at hl 3 rfl) ?_
        refine r_callV (As := [.int v2]) (rest := [.ref (ad x6), .int v1]) S hK hE hst hP hS h0 (by decide) rfl (cw_X10_87 ht ⟨Nat.le_of_ble_eq_true rfl, Nat.le_of_ble_eq_true rfl⟩) rfl hl.1 rfl (Nat.le_of_ble_eq_true rfl) dX10_digitOf_21 z2 (fun _ _ h => c_X10_figureAt hG  h0 h) hf (fun x7 M H locs hP hS bx7 hf => ?_)
        refine lv_iconst (v := 2) hx hb dX10_digitOf_24 (by decide) ?_
        refine lv_iadd hx hb dX10_digitOf_25 ?_
        refine r_iald S hK hP hx6 dX10_digitOf_26 hf (fun x8 hf => ?_)
        refine lv_bipush (v := 10) hx hb dX10_digitOf_27 (by decide) ?_
        refine lv_irem hx hb dX10_digitOf_29 (by decide) ?_
        refine lv_iload_n hx hb dX10_digitOf_30 rfl (lv_at hl 1 rfl) ?_
        refine r_icmp_ne (tgt := 38) S dX10_digitOf_31 (by decide) hf (fun hf => ?_) (fun hf => ?_)
        · refine lv_iconst (v := 0) hx hb dX10_digitOf_38 (by decide) ?_
          refine lv_iadd hx hb dX10_digitOf_39 ?_
          refine r_vi hf (fun x9 hf => ?_)
          refine lv_istore_n (lv' := [(2, .int x9), (0, .ref (ad o)), (1, .int p1), (3, .int v2)]) hx hb dX10_digitOf_40 rfl hl (by decide) rfl (fun ls hl => ?_)
          refine lv_iinc (v := (v2 + 1)) (lv' := [(3, .int (v2 + 1)), (2, .int x9), (0, .ref (ad o)), (1, .int p1)]) hx hb dX10_digitOf_41 hl (k := 3) rfl rfl (by decide) rfl (fun ls hl => ?_)
          refine lv_goto (tgt := 4) hx hb dX10_digitOf_44 (by decide) ?_
          exact ih3 x9 (v2 + 1) M H locs ls (lv_sub hl [2, 3, 1, 0] rfl) hP hS hf
        · refine lv_iconst (v := 1) hx hb dX10_digitOf_34 (by decide) ?_
          refine lv_goto (tgt := 39) hx hb dX10_digitOf_35 (by decide) ?_
          refine lv_iadd hx hb dX10_digitOf_39 ?_
          refine r_vi hf (fun x10 hf => ?_)
          refine lv_istore_n (lv' := [(2, .int x10), (0, .ref (ad o)), (1, .int p1), (3, .int v2)]) hx hb dX10_digitOf_40 rfl hl (by decide) rfl (fun ls hl => ?_)
          refine lv_iinc (v := (v2 + 1)) (lv' := [(3, .int (v2 + 1)), (2, .int x10), (0, .ref (ad o)), (1, .int p1)]) hx hb dX10_digitOf_41 hl (k := 3) rfl rfl (by decide) rfl (fun ls hl => ?_)
          refine lv_goto (tgt := 4) hx hb dX10_digitOf_44 (by decide) ?_
          exact ih3 x10 (v2 + 1) M H locs ls (lv_sub hl [2, 3, 1, 0] rfl) hP hS hf
  exact L3 _ 0 0 M H locs ls (lv_sub hl [2, 3, 1, 0] rfl) hP hS hf
theorem cw_X10_297 {R : Room} {s : State} {args : Array Value} (ht : ∀ w ∈ Tw, w.before args s = true) (hR : rm_X10_digitOf.frames + 1 ≤ R.frames ∧ 8 + (4 + 11) + rm_X10_digitOf.locals ≤ R.locals) : CallW R s args RX10 RX10 297 yX10_digitOf cX10_digitOf 4 (some .int) (ws_of yX10_digitOf cX10_digitOf 4 (some .int)) rm_X10_digitOf 0 0 1 := cw_V 1 ht k_1474 k_1476 k_53 k_73 k_1477 (by decide +kernel) rfl rfl hR
def f_X10_even (o : Nat) (M : Mem) : Option (Int32 × Mem) :=
  it2 (fun rc3 (v1 : Int32) (v2 : Int32) M =>
    if v2 < 10 then
      bd (f_X10_digitOf o v2 M) fun x4 M =>
      vv (grf G2 o 0) fun x5 =>
      ld M x5 1 3510 fun x6 =>
      vv ((10 * x4) - x6) fun x7 =>
      vv (v1 + (x7 * x7)) fun x8 =>
      rc3 x8 (v2 + 1) M
    else
      some (v1, M)
  ) fuel 0 0 M
def rm_X10_even : Room := { frames := 2, cells := 0, slots := 0, locals := 44 }
set_option maxHeartbeats 4000000 in
set_option maxRecDepth 100000 in
theorem c_X10_even {l : Launch} {D : va_G} {K : Ks} {ad : Nat → Nat} {A : Nat → Prop} (hG : Gok G2 ad A) {o : Nat} (h0 : gcl G2 o = 10) {M : Mem} {r : Int32} {M' : Mem} (hf : f_X10_even o M = some (r, M')) : Ct l E2 D K G2 ad A yX10_even (ws_of yX10_even cX10_even 4 (some .int)) rm_X10_even .int [.ref (ad o)] M r M' := by
  have hst : Est A E2 := est2
  refine Ct.ofW (by decide) (Nat.le_of_ble_eq_true rfl) ?_
  intro p e s m args below meth c Q H locs ls S hK hE hP hS hl hret
  have hx := S.1
  have hb := S.2.1
  have hown := S.2.2.2.1
  have ht := S.2.2.2.2
  have hl : lv_has ls 4 [(0, .ref (ad o))] := hl
  unfold f_X10_even at hf
  refine lv_iconst (v := 0) hx hb dX10_even_0 (by decide) ?_
  refine lv_istore_n (lv' := [(1, .int 0), (0, .ref (ad o))]) hx hb dX10_even_1 rfl hl (by decide) rfl (fun ls hl => ?_)
  refine lv_iconst (v := 0) hx hb dX10_even_2 (by decide) ?_
  refine lv_istore_n (lv' := [(2, .int 0), (1, .int 0), (0, .ref (ad o))]) hx hb dX10_even_3 rfl hl (by decide) rfl (fun ls hl => ?_)
  obtain ⟨F3, hF3, hf⟩ := it2_g hf
  have L3 : ∀ (n : Nat) (v1 : Int32) (v2 : Int32) (M : Mem) (H : Heap) (locs : List Loc) (ls : Array Slot), lv_has ls 4 [(0, .ref (ad o)), (1, .int v1), (2, .int v2)] → va_P D classes (gws K G2 ad M) H → va_S A s.heap H locs → it2 F3 n v1 v2 M = some (r, M') → W p l e rm_X10_even s m args below meth c H locs 0 0 Q (F0 m 4 ls []) := by
    intro n
    induction n with
    | zero => intro v1 v2 M H locs ls hl hP hS hf; exact nomatch hf
    | succ n ih3 =>
      intro v1 v2 M H locs ls hl hP hS hf
      obtain ⟨rc3, hrc3, hf⟩ := it2_w hf
      rw [← hrc3] at ih3
      rw [hF3] at hf
      refine lv_iload_n hx hb dX10_even_4 rfl (lv_at hl 2 rfl) ?_
      refine lv_bipush (v := 10) hx hb dX10_even_5 (by decide) ?_
      refine r_icmp_ge (tgt := 38) S dX10_even_7 (by decide) hf (fun hf => ?_) (fun hf => ?_)
      · refine lv_iload_n hx hb dX10_even_38 rfl (lv_at hl 1 rfl) ?_
        exact hret _ _ _ _ _ _ dX10_even_39 hP hS rfl hf
      · refine lv_bipush (v := 10) hx hb dX10_even_10 (by decide) ?_
        refine lv_aload_n hx hb dX10_even_12 rfl (lv_at hl 0 rfl) ?_
        refine lv_iload_n hx hb dX10_even_13 rfl (lv_at hl 2 rfl) ?_
        refine r_callV (As := [.int v2]) (rest := [.int 10]) S hK hE hst hP hS h0 (by decide) rfl (cw_X10_297 ht ⟨Nat.le_of_ble_eq_true rfl, Nat.le_of_ble_eq_true rfl⟩) rfl hl.1 rfl (Nat.le_of_ble_eq_true rfl) dX10_even_14 z2 (fun _ _ h => c_X10_digitOf hG  h0 h) hf (fun x4 M H locs hP hS bx4 hf => ?_)
        refine lv_imul hx hb dX10_even_17 ?_
        refine lv_aload_n hx hb dX10_even_18 rfl (lv_at hl 0 rfl) ?_
        refine gf_X10_7 S hK hP h0 dX10_even_19 hf (fun x5 hx5 hf => ?_)
        refine lv_iconst (v := 1) hx hb dX10_even_22 (by decide) ?_
        refine r_iald S hK hP hx5 dX10_even_23 hf (fun x6 hf => ?_)
        refine lv_isub hx hb dX10_even_24 ?_
        refine r_vi hf (fun x7 hf => ?_)
        refine lv_istore_n (lv' := [(3, .int x7), (0, .ref (ad o)), (1, .int v1), (2, .int v2)]) hx hb dX10_even_25 rfl hl (by decide) rfl (fun ls hl => ?_)
        refine lv_iload_n hx hb dX10_even_26 rfl (lv_at hl 2 rfl) ?_
        refine lv_iload_n hx hb dX10_even_27 rfl (lv_at hl 0 rfl) ?_
        refine lv_iload_n hx hb dX10_even_28 rfl (lv_at hl 0 rfl) ?_
        refine lv_imul hx hb dX10_even_29 ?_
        refine lv_iadd hx hb dX10_even_30 ?_
        refine r_vi hf (fun x8 hf => ?_)
        refine lv_istore_n (lv' := [(1, .int x8), (3, .int x7), (0, .ref (ad o)), (2, .int v2)]) hx hb dX10_even_31 rfl hl (by decide) rfl (fun ls hl => ?_)
        refine lv_iinc (v := (v2 + 1)) (lv' := [(2, .int (v2 + 1)), (1, .int x8), (3, .int x7), (0, .ref (ad o))]) hx hb dX10_even_32 hl (k := 3) rfl rfl (by decide) rfl (fun ls hl => ?_)
        refine lv_goto (tgt := 4) hx hb dX10_even_35 (by decide) ?_
        exact ih3 x8 (v2 + 1) M H locs ls (lv_sub hl [3, 1, 0] rfl) hP hS hf
  exact L3 _ 0 0 M H locs ls (lv_sub hl [2, 1, 0] rfl) hP hS hf
def f_X10_digit (o : Nat) (p1 : Int32) (M : Mem) : Option (Int32 × Mem) :=
  bd (f_X10_isIn (Int32.toInt64 p1) 0 9 M) fun x1 M =>
  if x1 = 0 then
    some ((-1000000001), M)
  else
    bd (f_X10_digitOf o p1 M) fun x2 M =>
    some (x2, M)
def rm_X10_digit : Room := { frames := 2, cells := 0, slots := 0, locals := 44 }
set_option maxHeartbeats 4000000 in
set_option maxRecDepth 100000 in
theorem c_X10_digit {l : Launch} {D : va_G} {K : Ks} {ad : Nat → Nat} {A : Nat → Prop} (hG : Gok G2 ad A) {o : Nat} {p1 : Int32} (h0 : gcl G2 o = 10) {M : Mem} {r : Int32} {M' : Mem} (hf : f_X10_digit o p1 M = some (r, M')) : Ct l E2 D K G2 ad A yX10_digit (ws_of yX10_digit cX10_digit 2 (some .int)) rm_X10_digit .int [.ref (ad o), .int p1] M r M' := by
  have hst : Est A E2 := est2
  refine Ct.ofW (by decide) (Nat.le_of_ble_eq_true rfl) ?_
  intro p e s m args below meth c Q H locs ls S hK hE hP hS hl hret
  have hx := S.1
  have hb := S.2.1
  have hown := S.2.2.2.1
  have ht := S.2.2.2.2
  have hl : lv_has ls 2 [(0, .ref (ad o)), (1, .int p1)] := hl
  unfold f_X10_digit at hf
  refine lv_iload_n hx hb dX10_digit_0 rfl (lv_at hl 1 rfl) ?_
  refine lv_i2l (v := (Int32.toInt64 p1)) hx hb dX10_digit_1 rfl ?_
  refine lv_lconst (v := 0) hx hb dX10_digit_2 (by decide) ?_
  refine lv_ldc2 (v := 9) hx hb hown (ht _ k_1482) dX10_digit_3 ?_
  refine r_callS (As := [.long (Int32.toInt64 p1), .long 0, .long 9]) (rest := []) S hK hE hst hP hS (cw_X10_74 ht ⟨Nat.le_of_ble_eq_true rfl, Nat.le_of_ble_eq_true rfl⟩) rfl hl.1 rfl (Nat.le_of_ble_eq_true rfl) dX10_digit_6 z2 (fun _ _ h => c_X10_isIn hG  h) hf (fun x1 M H locs hP hS bx1 hf => ?_)
  refine r_if_eq (tgt := 20) S dX10_digit_9 (by decide) hf (fun hf => ?_) (fun hf => ?_)
  · refine lv_ldc (v := (-1000000001)) hx hb hown (ht _ k_1232) dX10_digit_20 ?_
    exact hret _ _ _ _ _ _ dX10_digit_22 hP hS rfl hf
  · refine lv_aload_n hx hb dX10_digit_12 rfl (lv_at hl 0 rfl) ?_
    refine lv_iload_n hx hb dX10_digit_13 rfl (lv_at hl 1 rfl) ?_
    refine r_callV (As := [.int p1]) (rest := []) S hK hE hst hP hS h0 (by decide) rfl (cw_X10_297 ht ⟨Nat.le_of_ble_eq_true rfl, Nat.le_of_ble_eq_true rfl⟩) rfl hl.1 rfl (Nat.le_of_ble_eq_true rfl) dX10_digit_14 z2 (fun _ _ h => c_X10_digitOf hG  h0 h) hf (fun x2 M H locs hP hS bx2 hf => ?_)
    refine lv_goto (tgt := 22) hx hb dX10_digit_17 (by decide) ?_
    exact hret _ _ _ _ _ _ dX10_digit_22 hP hS rfl hf
def f_X10_odd (o : Nat) (M : Mem) : Option (Int32 × Mem) :=
  bd (f_X10_counts o 13 M) fun x1 M =>
  it2 (fun rc4 (v2 : Int32) (v3 : Int32) M =>
    if v3 < 10 then
      vv (grf G2 o 24) fun x5 =>
      bd (f_X10_digitOf o v3 M) fun x6 M =>
      st M x5 99 128 x6 fun M =>
      vv (grf G2 o 24) fun x7 =>
      st M x7 100 128 v3 fun M =>
      vv (grf G2 o 24) fun x8 =>
      vv (grf G2 o 0) fun x9 =>
      ld M x9 1 3510 fun x10 =>
      st M x8 97 128 x10 fun M =>
      jn (fun (v11 : Int32) (M : Mem) =>
        jn (fun (v13 : Int32) (M : Mem) =>
          vv (v2 ||| v13) fun x15 =>
          rc4 x15 (v3 + 1) M
        ) fun k14 =>
        if v11 = 0 then
          k14 0 M
        else
          k14 ((1 : Int32) <<< (v3 &&& 31)) M
      ) fun k12 =>
      if x1 < 0 then
        bd (f_X10_digitOf o v3 M) fun x17 M =>
        vv (grf G2 o 0) fun x18 =>
        ld M x18 1 3510 fun x19 =>
        if (x19 / 3) < x17 then
          k12 1 M
        else
          k12 0 M
      else
        bd (f_X10_worked o x1 M) fun x16 M =>
        if x16 = 0 then
          k12 0 M
        else
          k12 1 M
    else
      some (v2, M)
  ) fuel 0 0 M
def rm_X10_odd : Room := { frames := 2, cells := 0, slots := 0, locals := 47 }
set_option maxHeartbeats 4000000 in
set_option maxRecDepth 100000 in
theorem c_X10_odd {l : Launch} {D : va_G} {K : Ks} {ad : Nat → Nat} {A : Nat → Prop} (hG : Gok G2 ad A) {o : Nat} (h0 : gcl G2 o = 10) {M : Mem} {r : Int32} {M' : Mem} (hf : f_X10_odd o M = some (r, M')) : Ct l E2 D K G2 ad A yX10_odd (ws_of yX10_odd cX10_odd 5 (some .int)) rm_X10_odd .int [.ref (ad o)] M r M' := by
  have hst : Est A E2 := est2
  refine Ct.ofW (by decide) (Nat.le_of_ble_eq_true rfl) ?_
  intro p e s m args below meth c Q H locs ls S hK hE hP hS hl hret
  have hx := S.1
  have hb := S.2.1
  have hown := S.2.2.2.1
  have ht := S.2.2.2.2
  have hl : lv_has ls 5 [(0, .ref (ad o))] := hl
  unfold f_X10_odd at hf
  refine lv_aload_n hx hb dX10_odd_0 rfl (lv_at hl 0 rfl) ?_
  refine lv_bipush (v := 13) hx hb dX10_odd_1 (by decide) ?_
  refine r_callV (As := [.int 13]) (rest := []) S hK hE hst hP hS h0 (by decide) rfl (cw_X10_112 ht ⟨Nat.le_of_ble_eq_true rfl, Nat.le_of_ble_eq_true rfl⟩) rfl hl.1 rfl (Nat.le_of_ble_eq_true rfl) dX10_odd_3 z2 (fun _ _ h => c_X10_counts hG  h0 h) hf (fun x1 M H locs hP hS bx1 hf => ?_)
  refine lv_istore_n (lv' := [(1, .int x1), (0, .ref (ad o))]) hx hb dX10_odd_6 rfl hl (by decide) rfl (fun ls hl => ?_)
  refine lv_iconst (v := 0) hx hb dX10_odd_7 (by decide) ?_
  refine lv_istore_n (lv' := [(2, .int 0), (1, .int x1), (0, .ref (ad o))]) hx hb dX10_odd_8 rfl hl (by decide) rfl (fun ls hl => ?_)
  refine lv_iconst (v := 0) hx hb dX10_odd_9 (by decide) ?_
  refine lv_istore_n (lv' := [(3, .int 0), (2, .int 0), (1, .int x1), (0, .ref (ad o))]) hx hb dX10_odd_10 rfl hl (by decide) rfl (fun ls hl => ?_)
  obtain ⟨F4, hF4, hf⟩ := it2_g hf
  have L4 : ∀ (n : Nat) (v2 : Int32) (v3 : Int32) (M : Mem) (H : Heap) (locs : List Loc) (ls : Array Slot), lv_has ls 5 [(0, .ref (ad o)), (1, .int x1), (2, .int v2), (3, .int v3)] → va_P D classes (gws K G2 ad M) H → va_S A s.heap H locs → it2 F4 n v2 v3 M = some (r, M') → W p l e rm_X10_odd s m args below meth c H locs 0 0 Q (F0 m 11 ls []) := by
    intro n
    induction n with
    | zero => intro v2 v3 M H locs ls hl hP hS hf; exact nomatch hf
    | succ n ih4 =>
      intro v2 v3 M H locs ls hl hP hS hf
      obtain ⟨rc4, hrc4, hf⟩ := it2_w hf
      rw [← hrc4] at ih4
      rw [hF4] at hf
      refine lv_iload_n hx hb dX10_odd_11 rfl (lv_at hl 3 rfl) ?_
      refine lv_bipush (v := 10) hx hb dX10_odd_12 (by decide) ?_
      refine r_icmp_ge (tgt := 114) S dX10_odd_14 (by decide) hf (fun hf => ?_) (fun hf => ?_)
      · refine lv_iload_n hx hb dX10_odd_114 rfl (lv_at hl 2 rfl) ?_
        exact hret _ _ _ _ _ _ dX10_odd_115 hP hS rfl hf
      · refine lv_aload_n hx hb dX10_odd_17 rfl (lv_at hl 0 rfl) ?_
        refine gf_X10_46 S hK hP h0 dX10_odd_18 hf (fun x5 hx5 hf => ?_)
        refine lv_bipush (v := 99) hx hb dX10_odd_21 (by decide) ?_
        refine lv_aload_n hx hb dX10_odd_23 rfl (lv_at hl 0 rfl) ?_
        refine lv_iload_n hx hb dX10_odd_24 rfl (lv_at hl 3 rfl) ?_
        refine r_callV (As := [.int v3]) (rest := [.int 99, .ref (ad x5)]) S hK hE hst hP hS h0 (by decide) rfl (cw_X10_297 ht ⟨Nat.le_of_ble_eq_true rfl, Nat.le_of_ble_eq_true rfl⟩) rfl hl.1 rfl (Nat.le_of_ble_eq_true rfl) dX10_odd_25 z2 (fun _ _ h => c_X10_digitOf hG  h0 h) hf (fun x6 M H locs hP hS bx6 hf => ?_)
        refine r_iast S hK hG hP hS hx5 dX10_odd_28 hf (fun M H locs hP hS hf => ?_)
        refine lv_aload_n hx hb dX10_odd_29 rfl (lv_at hl 0 rfl) ?_
        refine gf_X10_46 S hK hP h0 dX10_odd_30 hf (fun x7 hx7 hf => ?_)
        refine lv_bipush (v := 100) hx hb dX10_odd_33 (by decide) ?_
        refine lv_iload_n hx hb dX10_odd_35 rfl (lv_at hl 3 rfl) ?_
        refine r_iast S hK hG hP hS hx7 dX10_odd_36 hf (fun M H locs hP hS hf => ?_)
        refine lv_aload_n hx hb dX10_odd_37 rfl (lv_at hl 0 rfl) ?_
        refine gf_X10_46 S hK hP h0 dX10_odd_38 hf (fun x8 hx8 hf => ?_)
        refine lv_bipush (v := 97) hx hb dX10_odd_41 (by decide) ?_
        refine lv_aload_n hx hb dX10_odd_43 rfl (lv_at hl 0 rfl) ?_
        refine gf_X10_7 S hK hP h0 dX10_odd_44 hf (fun x9 hx9 hf => ?_)
        refine lv_iconst (v := 1) hx hb dX10_odd_47 (by decide) ?_
        refine r_iald S hK hP hx9 dX10_odd_48 hf (fun x10 hf => ?_)
        refine r_iast S hK hG hP hS hx8 dX10_odd_49 hf (fun M H locs hP hS hf => ?_)
        refine lv_iload_n hx hb dX10_odd_50 rfl (lv_at hl 1 rfl) ?_
        obtain ⟨k12, hk12, hf⟩ := jn_w hf
        have J12 : ∀ (v11 : Int32) (M : Mem) (H : Heap) (locs : List Loc) (ls : Array Slot), lv_has ls 5 [(0, .ref (ad o)), (1, .int x1), (2, .int v2), (3, .int v3)] → va_P D classes (gws K G2 ad M) H → va_S A s.heap H locs → k12 v11 M = some (r, M') → W p l e rm_X10_odd s m args below meth c H locs 0 0 Q (F0 m 91 ls [.int v11]) := by
          intro v11 M H locs ls hl hP hS hf
          rw [hk12] at hf
          refine lv_istore (lv' := [(4, .int v11), (0, .ref (ad o)), (1, .int x1), (2, .int v2), (3, .int v3)]) hx hb dX10_odd_91 hl (by decide) rfl (fun ls hl => ?_)
          refine lv_iload_n hx hb dX10_odd_93 rfl (lv_at hl 3 rfl) ?_
          refine lv_iload hx hb dX10_odd_94 (lv_at hl 0 rfl) ?_
          obtain ⟨k14, hk14, hf⟩ := jn_w hf
          have J14 : ∀ (v13 : Int32) (M : Mem) (H : Heap) (locs : List Loc) (ls : Array Slot), lv_has ls 5 [(0, .ref (ad o)), (1, .int x1), (3, .int v3)] → va_P D classes (gws K G2 ad M) H → va_S A s.heap H locs → k14 v13 M = some (r, M') → W p l e rm_X10_odd s m args below meth c H locs 0 0 Q (F0 m 106 ls [.int v13, .int v2]) := by
            intro v13 M H locs ls hl hP hS hf
            rw [hk14] at hf
            refine lv_ior hx hb dX10_odd_106 ?_
            refine r_vi hf (fun x15 hf => ?_)
            refine lv_istore_n (lv' := [(2, .int x15), (0, .ref (ad o)), (1, .int x1), (3, .int v3)]) hx hb dX10_odd_107 rfl hl (by decide) rfl (fun ls hl => ?_)
            refine lv_iinc (v := (v3 + 1)) (lv' := [(3, .int (v3 + 1)), (2, .int x15), (0, .ref (ad o)), (1, .int x1)]) hx hb dX10_odd_108 hl (k := 3) rfl rfl (by decide) rfl (fun ls hl => ?_)
            refine lv_goto (tgt := 11) hx hb dX10_odd_111 (by decide) ?_
            exact ih4 x15 (v3 + 1) M H locs ls (lv_sub hl [2, 3, 1, 0] rfl) hP hS hf
          refine r_if_eq (tgt := 105) S dX10_odd_96 (by decide) hf (fun hf => ?_) (fun hf => ?_)
          · refine lv_iconst (v := 0) hx hb dX10_odd_105 (by decide) ?_
            exact J14 0 M H locs ls (lv_sub hl [1, 2, 4] rfl) hP hS hf
          · refine lv_iconst (v := 1) hx hb dX10_odd_99 (by decide) ?_
            refine lv_iload_n hx hb dX10_odd_100 rfl (lv_at hl 4 rfl) ?_
            refine lv_ishl hx hb dX10_odd_101 ?_
            refine lv_goto (tgt := 106) hx hb dX10_odd_102 (by decide) ?_
            exact J14 ((1 : Int32) <<< (v3 &&& 31)) M H locs ls (lv_sub hl [1, 2, 4] rfl) hP hS hf
        refine r_if_ge (tgt := 78) S dX10_odd_51 (by decide) hf (fun hf => ?_) (fun hf => ?_)
        · refine lv_aload_n hx hb dX10_odd_78 rfl (lv_at hl 0 rfl) ?_
          refine lv_iload_n hx hb dX10_odd_79 rfl (lv_at hl 1 rfl) ?_
          refine r_callV (As := [.int x1]) (rest := []) S hK hE hst hP hS h0 (by decide) rfl (cw_X10_115 ht ⟨Nat.le_of_ble_eq_true rfl, Nat.le_of_ble_eq_true rfl⟩) rfl hl.1 rfl (Nat.le_of_ble_eq_true rfl) dX10_odd_80 z2 (fun _ _ h => c_X10_worked hG  h0 h) hf (fun x16 M H locs hP hS bx16 hf => ?_)
          refine r_if_eq (tgt := 90) S dX10_odd_83 (by decide) hf (fun hf => ?_) (fun hf => ?_)
          · refine lv_iconst (v := 0) hx hb dX10_odd_90 (by decide) ?_
            exact J12 0 M H locs ls (lv_sub hl [0, 1, 2, 3] rfl) hP hS hf
          · refine lv_iconst (v := 1) hx hb dX10_odd_86 (by decide) ?_
            refine lv_goto (tgt := 91) hx hb dX10_odd_87 (by decide) ?_
            exact J12 1 M H locs ls (lv_sub hl [0, 1, 2, 3] rfl) hP hS hf
        · refine lv_aload_n hx hb dX10_odd_54 rfl (lv_at hl 0 rfl) ?_
          refine lv_iload_n hx hb dX10_odd_55 rfl (lv_at hl 3 rfl) ?_
          refine r_callV (As := [.int v3]) (rest := []) S hK hE hst hP hS h0 (by decide) rfl (cw_X10_297 ht ⟨Nat.le_of_ble_eq_true rfl, Nat.le_of_ble_eq_true rfl⟩) rfl hl.1 rfl (Nat.le_of_ble_eq_true rfl) dX10_odd_56 z2 (fun _ _ h => c_X10_digitOf hG  h0 h) hf (fun x17 M H locs hP hS bx17 hf => ?_)
          refine lv_aload_n hx hb dX10_odd_59 rfl (lv_at hl 0 rfl) ?_
          refine gf_X10_7 S hK hP h0 dX10_odd_60 hf (fun x18 hx18 hf => ?_)
          refine lv_iconst (v := 1) hx hb dX10_odd_63 (by decide) ?_
          refine r_iald S hK hP hx18 dX10_odd_64 hf (fun x19 hf => ?_)
          refine lv_iconst (v := 3) hx hb dX10_odd_65 (by decide) ?_
          refine lv_idiv hx hb dX10_odd_66 (by decide) ?_
          refine r_icmp_le (tgt := 74) S dX10_odd_67 (by decide) hf (fun hf => ?_) (fun hf => ?_)
          · refine lv_iconst (v := 0) hx hb dX10_odd_74 (by decide) ?_
            refine lv_goto (tgt := 91) hx hb dX10_odd_75 (by decide) ?_
            exact J12 0 M H locs ls (lv_sub hl [0, 1, 2, 3] rfl) hP hS hf
          · refine lv_iconst (v := 1) hx hb dX10_odd_70 (by decide) ?_
            refine lv_goto (tgt := 91) hx hb dX10_odd_71 (by decide) ?_
            exact J12 1 M H locs ls (lv_sub hl [0, 1, 2, 3] rfl) hP hS hf
  exact L4 _ 0 0 M H locs ls (lv_sub hl [3, 2, 1, 0] rfl) hP hS hf
def f_X10_choose (o : Nat) (p1 : Int32) (M : Mem) : Option (Int32 × Mem) :=
  bd (f_X10_isFigure o p1 M) fun x1 M =>
  if x1 = 0 then
    some ((-1000000001), M)
  else
    it1 (fun rc3 (v2 : Int32) M =>
      vv (grf G2 o 0) fun x4 =>
      ld M x4 3 3510 fun x5 =>
      if v2 < x5 then
        vv (grf G2 o 0) fun x15 =>
        ld M x15 (350 + v2) 3510 fun x16 =>
        if x16 = p1 then
          some ((-1000000002), M)
        else
          rc3 (v2 + 1) M
      else
        vv (grf G2 o 0) fun x6 =>
        ld M x6 3 3510 fun x7 =>
        if x7 = 6 then
          some ((-1000000003), M)
        else
          vv (grf G2 o 0) fun x8 =>
          vv (grf G2 o 0) fun x9 =>
          ld M x9 3 3510 fun x10 =>
          st M x8 (350 + x10) 3510 p1 fun M =>
          vv (grf G2 o 0) fun x11 =>
          ld M x11 3 3510 fun x12 =>
          st M x11 3 3510 (x12 + 1) fun M =>
          vv (grf G2 o 0) fun x13 =>
          ld M x13 3 3510 fun x14 =>
          some (x14, M)
    ) fuel 0 M
def rm_X10_choose : Room := { frames := 2, cells := 0, slots := 0, locals := 46 }
set_option maxHeartbeats 4000000 in
set_option maxRecDepth 100000 in
theorem c_X10_choose {l : Launch} {D : va_G} {K : Ks} {ad : Nat → Nat} {A : Nat → Prop} (hG : Gok G2 ad A) {o : Nat} {p1 : Int32} (h0 : gcl G2 o = 10) {M : Mem} {r : Int32} {M' : Mem} (hf : f_X10_choose o p1 M = some (r, M')) : Ct l E2 D K G2 ad A yX10_choose (ws_of yX10_choose cX10_choose 3 (some .int)) rm_X10_choose .int [.ref (ad o), .int p1] M r M' := by
  have hst : Est A E2 := est2
  refine Ct.ofW (by decide) (Nat.le_of_ble_eq_true rfl) ?_
  intro p e s m args below meth c Q H locs ls S hK hE hP hS hl hret
  have hx := S.1
  have hb := S.2.1
  have hown := S.2.2.2.1
  have ht := S.2.2.2.2
  have hl : lv_has ls 3 [(0, .ref (ad o)), (1, .int p1)] := hl
  unfold f_X10_choose at hf
  refine lv_aload_n hx hb dX10_choose_0 rfl (lv_at hl 0 rfl) ?_
  refine lv_iload_n hx hb dX10_choose_1 rfl (lv_at hl 1 rfl) ?_
  refine r_callV (As := [.int p1]) (rest := []) S hK hE hst hP hS h0 (by decide) rfl (cw_X10_102 ht ⟨Nat.le_of_ble_eq_true rfl, Nat.le_of_ble_eq_true rfl⟩) rfl hl.1 rfl (Nat.le_of_ble_eq_true rfl) dX10_choose_2 z2 (fun _ _ h => c_X10_isFigure hG  h0 h) hf (fun x1 M H locs hP hS bx1 hf => ?_)
  refine r_if_ne (tgt := 11) S dX10_choose_5 (by decide) hf (fun hf => ?_) (fun hf => ?_)
  · refine lv_iconst (v := 0) hx hb dX10_choose_11 (by decide) ?_
    refine lv_istore_n (lv' := [(2, .int 0), (0, .ref (ad o)), (1, .int p1)]) hx hb dX10_choose_12 rfl hl (by decide) rfl (fun ls hl => ?_)
    obtain ⟨F3, hF3, hf⟩ := it1_g hf
    have L3 : ∀ (n : Nat) (v2 : Int32) (M : Mem) (H : Heap) (locs : List Loc) (ls : Array Slot), lv_has ls 3 [(0, .ref (ad o)), (1, .int p1), (2, .int v2)] → va_P D classes (gws K G2 ad M) H → va_S A s.heap H locs → it1 F3 n v2 M = some (r, M') → W p l e rm_X10_choose s m args below meth c H locs 0 0 Q (F0 m 13 ls []) := by
      intro n
      induction n with
      | zero => intro v2 M H locs ls hl hP hS hf; exact nomatch hf
      | succ n ih3 =>
        intro v2 M H locs ls hl hP hS hf
        obtain ⟨rc3, hrc3, hf⟩ := it1_w hf
        rw [← hrc3] at ih3
        rw [hF3] at hf
        refine lv_iload_n hx hb dX10_choose_13 rfl (lv_at hl 2 rfl) ?_
        refine lv_aload_n hx hb dX10_choose_14 rfl (lv_at hl 0 rfl) ?_
        refine gf_X10_7 S hK hP h0 dX10_choose_15 hf (fun x4 hx4 hf => ?_)
        refine lv_iconst (v := 3) hx hb dX10_choose_18 (by decide) ?_
        refine r_iald S hK hP hx4 dX10_choose_19 hf (fun x5 hf => ?_)
        refine r_icmp_ge (tgt := 46) S dX10_choose_20 (by decide) hf (fun hf => ?_) (fun hf => ?_)
        · refine lv_aload_n hx hb dX10_choose_46 rfl (lv_at hl 0 rfl) ?_
          refine gf_X10_7 S hK hP h0 dX10_choose_47 hf (fun x6 hx6 hf => ?_)
          refine lv_iconst (v := 3) hx hb dX10_choose_50 (by decide) ?_
          refine r_iald S hK hP hx6 dX10_choose_51 hf (fun x7 hf => ?_)
          refine lv_bipush (v := 6) hx hb dX10_choose_52 (by decide) ?_
          refine r_icmp_ne (tgt := 60) S dX10_choose_54 (by decide) hf (fun hf => ?_) (fun hf => ?_)
          · refine lv_aload_n hx hb dX10_choose_60 rfl (lv_at hl 0 rfl) ?_
            refine gf_X10_7 S hK hP h0 dX10_choose_61 hf (fun x8 hx8 hf => ?_)
            refine lv_sipush (v := 350) hx hb dX10_choose_64 (by decide) ?_
            refine lv_aload_n hx hb dX10_choose_67 rfl (lv_at hl 0 rfl) ?_
            refine gf_X10_7 S hK hP h0 dX10_choose_68 hf (fun x9 hx9 hf => ?_)
            refine lv_iconst (v := 3) hx hb dX10_choose_71 (by decide) ?_
            refine r_iald S hK hP hx9 dX10_choose_72 hf (fun x10 hf => ?_)
            refine lv_iadd hx hb dX10_choose_73 ?_
            refine lv_iload_n hx hb dX10_choose_74 rfl (lv_at hl 1 rfl) ?_
            refine r_iast S hK hG hP hS hx8 dX10_choose_75 hf (fun M H locs hP hS hf => ?_)
            refine lv_aload_n hx hb dX10_choose_76 rfl (lv_at hl 0 rfl) ?_
            refine gf_X10_7 S hK hP h0 dX10_choose_77 hf (fun x11 hx11 hf => ?_)
            refine lv_iconst (v := 3) hx hb dX10_choose_80 (by decide) ?_
            refine lv_dup2_11 hx hb dX10_choose_81 rfl rfl ?_
            refine r_iald S hK hP hx11 dX10_choose_82 hf (fun x12 hf => ?_)
            refine lv_iconst (v := 1) hx hb dX10_choose_83 (by decide) ?_
            refine lv_iadd hx hb dX10_choose_84 ?_
            refine r_iast S hK hG hP hS hx11 dX10_choose_85 hf (fun M H locs hP hS hf => ?_)
            refine lv_aload_n hx hb dX10_choose_86 rfl (lv_at hl 0 rfl) ?_
            refine gf_X10_7 S hK hP h0 dX10_choose_87 hf (fun x13 hx13 hf => ?_)
            refine lv_iconst (v := 3) hx hb dX10_choose_90 (by decide) ?_
            refine r_iald S hK hP hx13 dX10_choose_91 hf (fun x14 hf => ?_)
            exact hret _ _ _ _ _ _ dX10_choose_92 hP hS rfl hf
          · refine lv_ldc (v := (-1000000003)) hx hb hown (ht _ k_1234) dX10_choose_57 ?_
            exact hret _ _ _ _ _ _ dX10_choose_59 hP hS rfl hf
        · refine lv_aload_n hx hb dX10_choose_23 rfl (lv_at hl 0 rfl) ?_
          refine gf_X10_7 S hK hP h0 dX10_choose_24 hf (fun x15 hx15 hf => ?_)
          refine lv_sipush (v := 350) hx hb dX10_choose_27 (by decide) ?_
          refine lv_iload_n hx hb dX10_choose_30 rfl (lv_at hl 2 rfl) ?_
          refine lv_iadd hx hb dX10_choose_31 ?_
          refine r_iald S hK hP hx15 dX10_choose_32 hf (fun x16 hf => ?_)
          refine lv_iload_n hx hb dX10_choose_33 rfl (lv_at hl 1 rfl) ?_
          refine r_icmp_ne (tgt := 40) S dX10_choose_34 (by decide) hf (fun hf => ?_) (fun hf => ?_)
          · refine lv_iinc (v := (v2 + 1)) (lv' := [(2, .int (v2 + 1)), (0, .ref (ad o)), (1, .int p1)]) hx hb dX10_choose_40 hl (k := 2) rfl rfl (by decide) rfl (fun ls hl => ?_)
            refine lv_goto (tgt := 13) hx hb dX10_choose_43 (by decide) ?_
            exact ih3 (v2 + 1) M H locs ls (lv_sub hl [1, 2, 0] rfl) hP hS hf
          · refine lv_ldc (v := (-1000000002)) hx hb hown (ht _ k_1233) dX10_choose_37 ?_
            exact hret _ _ _ _ _ _ dX10_choose_39 hP hS rfl hf
    exact L3 _ 0 M H locs ls (lv_sub hl [1, 2, 0] rfl) hP hS hf
  · refine lv_ldc (v := (-1000000001)) hx hb hown (ht _ k_1232) dX10_choose_8 ?_
    exact hret _ _ _ _ _ _ dX10_choose_10 hP hS rfl hf
theorem cwg_X10_311 {R : Room} {s : State} {args : Array Value} {rm : Room} (hrm : rm.cells = 0 ∧ rm.slots = 0) (ht : ∀ w ∈ Tw, w.before args s = true) (hR : rm.frames + 1 ≤ R.frames ∧ 8 + (5 + 11) + rm.locals ≤ R.locals) : CallW R s args RX10 RX10 311 yX10_tries cX10_tries 5 none (ws_of yX10_tries cX10_tries 5 none) rm 0 0 3 := cw_V 3 ht k_1496 k_1498 k_54 k_73 k_1499 (by decide +kernel) hrm.1 hrm.2 hR
section
variable {p : Program} {l : Launch} {e : Env} {R : Room} {s : State} {m : MethodId} {args : Array Value} {below : List Frame} {meth : Method} {c : Code} {H : Heap} {locs : List Loc} {cells slots : Nat} {Q : State → Prop} {cc : ByteArray} {pc : Nat} {ls : Array Slot} {rest : List Value} {nL : Nat} {D : va_G} {K : Ks} {ad : Nat → Nat} {A : Nat → Prop} {M : Mem} {β : Type} {z : β}
theorem gf_X10_302 (S : CallFix p m c cc nL s args Tw RX10) (hK : va_K D classes (gty K) s) (hP : va_P D classes (gws K G2 ad M) H) {a : Nat} {kk : Int32 → Option β} (ha : gcl G2 a = 10) (hdg : decode cc pc = .ok (.getfield 302, 3)) (hf : vv (M a 33) kk = some z) (w : ∀ x, kk x = some z → W p l e R s m args below meth c H locs cells slots Q (F0 m (pc + 3) ls (.int x :: rest))) : W p l e R s m args below meth c H locs cells slots Q (F0 m pc ls (.ref (ad a) :: rest)) := r_geti S hK hP (T := TX10) inX10 rfl (by decide) (by decide) ha (sf_X10_33 ha) k_1139 hdg hf w
end
section
variable {p : Program} {l : Launch} {e : Env} {R : Room} {s : State} {m : MethodId} {args : Array Value} {below : List Frame} {meth : Method} {c : Code} {H : Heap} {locs : List Loc} {cells slots : Nat} {Q : State → Prop} {cc : ByteArray} {pc : Nat} {ls : Array Slot} {rest : List Value} {nL : Nat} {D : va_G} {K : Ks} {ad : Nat → Nat} {A : Nat → Prop} {M : Mem} {β : Type} {z : β}
theorem gf_X10_305 (S : CallFix p m c cc nL s args Tw RX10) (hK : va_K D classes (gty K) s) (hP : va_P D classes (gws K G2 ad M) H) {a : Nat} {kk : Int32 → Option β} (ha : gcl G2 a = 10) (hdg : decode cc pc = .ok (.getfield 305, 3)) (hf : vv (M a 31) kk = some z) (w : ∀ x, kk x = some z → W p l e R s m args below meth c H locs cells slots Q (F0 m (pc + 3) ls (.int x :: rest))) : W p l e R s m args below meth c H locs cells slots Q (F0 m pc ls (.ref (ad a) :: rest)) := r_geti S hK hP (T := TX10) inX10 rfl (by decide) (by decide) ha (sf_X10_31 ha) k_1137 hdg hf w
end
section
variable {p : Program} {l : Launch} {e : Env} {R : Room} {s : State} {m : MethodId} {args : Array Value} {below : List Frame} {meth : Method} {c : Code} {H : Heap} {locs : List Loc} {cells slots : Nat} {Q : State → Prop} {cc : ByteArray} {pc : Nat} {ls : Array Slot} {rest : List Value} {nL : Nat} {D : va_G} {K : Ks} {ad : Nat → Nat} {A : Nat → Prop} {M : Mem} {β : Type} {z : β}
theorem gf_X10_308 (S : CallFix p m c cc nL s args Tw RX10) (hK : va_K D classes (gty K) s) (hP : va_P D classes (gws K G2 ad M) H) {a : Nat} {kk : Int32 → Option β} (ha : gcl G2 a = 10) (hdg : decode cc pc = .ok (.getfield 308, 3)) (hf : vv (M a 32) kk = some z) (w : ∀ x, kk x = some z → W p l e R s m args below meth c H locs cells slots Q (F0 m (pc + 3) ls (.int x :: rest))) : W p l e R s m args below meth c H locs cells slots Q (F0 m pc ls (.ref (ad a) :: rest)) := r_geti S hK hP (T := TX10) inX10 rfl (by decide) (by decide) ha (sf_X10_32 ha) k_1138 hdg hf w
end
section
variable {p : Program} {l : Launch} {e : Env} {R : Room} {s : State} {m : MethodId} {args : Array Value} {below : List Frame} {meth : Method} {c : Code} {H : Heap} {locs : List Loc} {cells slots : Nat} {Q : State → Prop} {cc : ByteArray} {pc : Nat} {ls : Array Slot} {rest : List Value} {nL : Nat} {D : va_G} {K : Ks} {ad : Nat → Nat} {A : Nat → Prop} {M : Mem} {β : Type} {z : β}
theorem gf_X10_52 (S : CallFix p m c cc nL s args Tw RX10) (hK : va_K D classes (gty K) s) (hP : va_P D classes (gws K G2 ad M) H) {a : Nat} {kk : Nat → Option β} (ha : gcl G2 a = 10) (hdg : decode cc pc = .ok (.getfield 52, 3)) (hf : vv (grf G2 a 28) kk = some z) (w : ∀ b, gcl G2 b = 20 ∧ gsz G2 b = 48 → kk b = some z → W p l e R s m args below meth c H locs cells slots Q (F0 m (pc + 3) ls (.ref (ad b) :: rest))) : W p l e R s m args below meth c H locs cells slots Q (F0 m pc ls (.ref (ad a) :: rest)) := r_getr S hK hP (T := TX10) inX10 rfl (by decide) (by decide) ha (sf_X10_28 ha).1 k_1134 hdg hf (fun b e => w b (by rw [e]; exact (sf_X10_28 ha).2))
end
section
variable {p : Program} {l : Launch} {e : Env} {R : Room} {s : State} {m : MethodId} {args : Array Value} {below : List Frame} {meth : Method} {c : Code} {H : Heap} {locs : List Loc} {cells slots : Nat} {Q : State → Prop} {cc : ByteArray} {pc : Nat} {ls : Array Slot} {rest : List Value} {nL : Nat} {D : va_G} {K : Ks} {ad : Nat → Nat} {A : Nat → Prop} {M : Mem} {β : Type} {z : β}
theorem gf_X10_55 (S : CallFix p m c cc nL s args Tw RX10) (hK : va_K D classes (gty K) s) (hP : va_P D classes (gws K G2 ad M) H) {a : Nat} {kk : Nat → Option β} (ha : gcl G2 a = 10) (hdg : decode cc pc = .ok (.getfield 55, 3)) (hf : vv (grf G2 a 29) kk = some z) (w : ∀ b, gcl G2 b = 20 ∧ gsz G2 b = 6 → kk b = some z → W p l e R s m args below meth c H locs cells slots Q (F0 m (pc + 3) ls (.ref (ad b) :: rest))) : W p l e R s m args below meth c H locs cells slots Q (F0 m pc ls (.ref (ad a) :: rest)) := r_getr S hK hP (T := TX10) inX10 rfl (by decide) (by decide) ha (sf_X10_29 ha).1 k_1135 hdg hf (fun b e => w b (by rw [e]; exact (sf_X10_29 ha).2))
end
section
variable {p : Program} {l : Launch} {e : Env} {R : Room} {s : State} {m : MethodId} {args : Array Value} {below : List Frame} {meth : Method} {c : Code} {H : Heap} {locs : List Loc} {cells slots : Nat} {Q : State → Prop} {cc : ByteArray} {pc : Nat} {ls : Array Slot} {rest : List Value} {nL : Nat} {D : va_G} {K : Ks} {ad : Nat → Nat} {A : Nat → Prop} {M : Mem} {β : Type} {z : β}
theorem gf_X10_58 (S : CallFix p m c cc nL s args Tw RX10) (hK : va_K D classes (gty K) s) (hP : va_P D classes (gws K G2 ad M) H) {a : Nat} {kk : Nat → Option β} (ha : gcl G2 a = 10) (hdg : decode cc pc = .ok (.getfield 58, 3)) (hf : vv (grf G2 a 30) kk = some z) (w : ∀ b, gcl G2 b = 20 ∧ gsz G2 b = 6 → kk b = some z → W p l e R s m args below meth c H locs cells slots Q (F0 m (pc + 3) ls (.ref (ad b) :: rest))) : W p l e R s m args below meth c H locs cells slots Q (F0 m pc ls (.ref (ad a) :: rest)) := r_getr S hK hP (T := TX10) inX10 rfl (by decide) (by decide) ha (sf_X10_30 ha).1 k_1136 hdg hf (fun b e => w b (by rw [e]; exact (sf_X10_30 ha).2))
end
section
variable {p : Program} {l : Launch} {e : Env} {R : Room} {s : State} {m : MethodId} {args : Array Value} {below : List Frame} {meth : Method} {c : Code} {H : Heap} {locs : List Loc} {cells slots : Nat} {Q : State → Prop} {cc : ByteArray} {pc : Nat} {ls : Array Slot} {rest : List Value} {nL : Nat} {D : va_G} {K : Ks} {ad : Nat → Nat} {A : Nat → Prop} {M : Mem} {β : Type} {z : β}
theorem pf_X10_305 (S : CallFix p m c cc nL s args Tw RX10) (hK : va_K D classes (gty K) s) (hG : Gok G2 ad A) (hP : va_P D classes (gws K G2 ad M) H) (hS : va_S A s.heap H locs) {a : Nat} {v : Int32} {kk : Mem → Option β} (ha : gcl G2 a = 10) (hdg : decode cc pc = .ok (.putfield 305, 3)) (hf : mm (up M a 31 v) kk = some z) (w : ∀ M H locs, va_P D classes (gws K G2 ad M) H → va_S A s.heap H locs → kk M = some z → W p l e R s m args below meth c H locs cells slots Q (F0 m (pc + 3) ls rest)) : W p l e R s m args below meth c H locs cells slots Q (F0 m pc ls (.int v :: .ref (ad a) :: rest)) := r_putt S hK hG hP hS (k := 31) (T := TX10) inX10 rfl (by decide) tyX10 tyX10_ok nmX10 (by decide) rfl rfl rfl ha (sf_X10_31 ha) k_1137 hdg hf w
end
section
variable {p : Program} {l : Launch} {e : Env} {R : Room} {s : State} {m : MethodId} {args : Array Value} {below : List Frame} {meth : Method} {c : Code} {H : Heap} {locs : List Loc} {cells slots : Nat} {Q : State → Prop} {cc : ByteArray} {pc : Nat} {ls : Array Slot} {rest : List Value} {nL : Nat} {D : va_G} {K : Ks} {ad : Nat → Nat} {A : Nat → Prop} {M : Mem} {β : Type} {z : β}
theorem pf_X10_308 (S : CallFix p m c cc nL s args Tw RX10) (hK : va_K D classes (gty K) s) (hG : Gok G2 ad A) (hP : va_P D classes (gws K G2 ad M) H) (hS : va_S A s.heap H locs) {a : Nat} {v : Int32} {kk : Mem → Option β} (ha : gcl G2 a = 10) (hdg : decode cc pc = .ok (.putfield 308, 3)) (hf : mm (up M a 32 v) kk = some z) (w : ∀ M H locs, va_P D classes (gws K G2 ad M) H → va_S A s.heap H locs → kk M = some z → W p l e R s m args below meth c H locs cells slots Q (F0 m (pc + 3) ls rest)) : W p l e R s m args below meth c H locs cells slots Q (F0 m pc ls (.int v :: .ref (ad a) :: rest)) := r_putt S hK hG hP hS (k := 32) (T := TX10) inX10 rfl (by decide) tyX10 tyX10_ok nmX10 (by decide) rfl rfl rfl ha (sf_X10_32 ha) k_1138 hdg hf w
end
def F_X10_tries (g_X10_tries : Nat → Int32 → Int32 → Int32 → Mem → Option (Int32 × Mem)) (o : Nat) (p1 : Int32) (p2 : Int32) (p3 : Int32) (M : Mem) : Option (Int32 × Mem) :=
  vv (M o 33) fun x1 =>
  if x1 < p3 then
    some (0, M)
  else
    vv (M o 31) fun x2 =>
    jn (fun (M : Mem) =>
      vv (grf G2 o 0) fun x4 =>
      ld M x4 3 3510 fun x5 =>
      if p1 = x5 then
        vv (M o 31) fun x16 =>
        jn (fun (M : Mem) =>
          mm (up M o 31 p2) fun M =>
          mm (up M o 32 p3) fun M =>
          it1 (fun rc19 (v18 : Int32) M =>
            if v18 < p1 then
              vv (grf G2 o 30) fun x20 =>
              vv (grf G2 o 29) fun x21 =>
              ld M x21 v18 6 fun x22 =>
              st M x20 v18 6 x22 fun M =>
              rc19 (v18 + 1) M
            else
              some (0, M)
          ) fuel 0 M
        ) fun k17 =>
        if x16 < 0 then
          k17 M
        else
          vv (M o 31) fun x23 =>
          if p2 < x23 then
            k17 M
          else
            vv (M o 32) fun x24 =>
            if p3 < x24 then
              k17 M
            else
              some (0, M)
      else
        it1 (fun rc7 (v6 : Int32) M =>
          if 7 < v6 then
            some (0, M)
          else
            vv (grf G2 o 28) fun x8 =>
            ld M x8 ((8 * p1) + v6) 48 fun x9 =>
            if x9 < 0 then
              rc7 (v6 + 1) M
            else
              vv (grf G2 o 29) fun x10 =>
              st M x10 p1 6 v6 fun M =>
              vv (grf G2 o 28) fun x11 =>
              ld M x11 ((8 * p1) + v6) 48 fun x12 =>
              jn (fun (v13 : Int32) (M : Mem) =>
                bd (g_X10_tries o (p1 + 1) (p2 + x12) (p3 + v13) M) fun _ M =>
                rc7 (v6 + 1) M
              ) fun k14 =>
              if v6 < 6 then
                k14 0 M
              else
                k14 1 M
        ) fuel 1 M
    ) fun k3 =>
    if x2 < 0 then
      k3 M
    else
      vv (M o 31) fun x25 =>
      if x25 < p2 then
        some (0, M)
      else
        k3 M
set_option maxHeartbeats 4000000 in
set_option maxRecDepth 100000 in
theorem co_X10_tries {l : Launch} {D : va_G} {K : Ks} {ad : Nat → Nat} {A : Nat → Prop} (hG : Gok G2 ad A) {d : Nat} {g_X10_tries : Nat → Int32 → Int32 → Int32 → Mem → Option (Int32 × Mem)} (hg_X10_tries : ∀ (o : Nat) (p1 : Int32) (p2 : Int32) (p3 : Int32), gcl G2 o = 10 → ∀ {M : Mem} {r : Int32} {M' : Mem}, g_X10_tries o p1 p2 p3 M = some (r, M') → Cv l E2 D K G2 ad A yX10_tries (ws_of yX10_tries cX10_tries 5 none) (rmD 12 400 d) [.ref (ad o), .int p1, .int p2, .int p3] M M') {o : Nat} {p1 : Int32} {p2 : Int32} {p3 : Int32} (h0 : gcl G2 o = 10) {M : Mem} {r : Int32} {M' : Mem} (hf : F_X10_tries g_X10_tries o p1 p2 p3 M = some (r, M')) : Cv l E2 D K G2 ad A yX10_tries (ws_of yX10_tries cX10_tries 5 none) (rmD 12 400 (d + 1)) [.ref (ad o), .int p1, .int p2, .int p3] M M' := by
  have hst : Est A E2 := est2
  refine Cv.ofW (r := r) (by decide) (Nat.le_of_ble_eq_true rfl) ?_
  intro p e s m args below meth c Q H locs ls S hK hE hP hS hl hret
  have hx := S.1
  have hb := S.2.1
  have hown := S.2.2.2.1
  have ht := S.2.2.2.2
  have hl : lv_has ls 5 [(0, .ref (ad o)), (1, .int p1), (2, .int p2), (3, .int p3)] := hl
  unfold F_X10_tries at hf
  refine lv_iload_n hx hb dX10_tries_0 rfl (lv_at hl 3 rfl) ?_
  refine lv_aload_n hx hb dX10_tries_1 rfl (lv_at hl 0 rfl) ?_
  refine gf_X10_302 S hK hP h0 dX10_tries_2 hf (fun x1 hf => ?_)
  refine r_icmp_gt (tgt := 23) S dX10_tries_5 (by decide) hf (fun hf => ?_) (fun hf => ?_)
  · exact hret _ _ _ _ _ _ dX10_tries_23 hP hS hf
  · refine lv_aload_n hx hb dX10_tries_8 rfl (lv_at hl 0 rfl) ?_
    refine gf_X10_305 S hK hP h0 dX10_tries_9 hf (fun x2 hf => ?_)
    obtain ⟨k3, hk3, hf⟩ := jn_w hf
    have J3 : ∀ (M : Mem) (H : Heap) (locs : List Loc) (ls : Array Slot), lv_has ls 5 [(0, .ref (ad o)), (1, .int p1), (2, .int p2), (3, .int p3)] → va_P D classes (gws K G2 ad M) H → va_S A s.heap H locs → k3 M = some (r, M') → W p l e (rmD 12 400 (d + 1)) s m args below meth c H locs 0 0 Q (F0 m 24 ls []) := by
      intro M H locs ls hl hP hS hf
      rw [hk3] at hf
      refine lv_iload_n hx hb dX10_tries_24 rfl (lv_at hl 1 rfl) ?_
      refine lv_aload_n hx hb dX10_tries_25 rfl (lv_at hl 0 rfl) ?_
      refine gf_X10_7 S hK hP h0 dX10_tries_26 hf (fun x4 hx4 hf => ?_)
      refine lv_iconst (v := 3) hx hb dX10_tries_29 (by decide) ?_
      refine r_iald S hK hP hx4 dX10_tries_30 hf (fun x5 hf => ?_)
      refine r_icmp_ne (tgt := 97) S dX10_tries_31 (by decide) hf (fun hf => ?_) (fun hf => ?_)
      · refine lv_iconst (v := 1) hx hb dX10_tries_97 (by decide) ?_
        refine lv_istore (lv' := [(4, .int 1), (0, .ref (ad o)), (1, .int p1), (2, .int p2), (3, .int p3)]) hx hb dX10_tries_98 hl (by decide) rfl (fun ls hl => ?_)
        obtain ⟨F7, hF7, hf⟩ := it1_g hf
        have L7 : ∀ (n : Nat) (v6 : Int32) (M : Mem) (H : Heap) (locs : List Loc) (ls : Array Slot), lv_has ls 5 [(0, .ref (ad o)), (1, .int p1), (2, .int p2), (3, .int p3), (4, .int v6)] → va_P D classes (gws K G2 ad M) H → va_S A s.heap H locs → it1 F7 n v6 M = some (r, M') → W p l e (rmD 12 400 (d + 1)) s m args below meth c H locs 0 0 Q (F0 m 100 ls []) := by
          intro n
          induction n with
          | zero => intro v6 M H locs ls hl hP hS hf; exact nomatch hf
          | succ n ih7 =>
            intro v6 M H locs ls hl hP hS hf
            obtain ⟨rc7, hrc7, hf⟩ := it1_w hf
            rw [← hrc7] at ih7
            rw [hF7] at hf
            refine lv_iload hx hb dX10_tries_100 (lv_at hl 4 rfl) ?_
            refine lv_bipush (v := 7) hx hb dX10_tries_102 (by decide) ?_
            refine r_icmp_gt (tgt := 171) S dX10_tries_104 (by decide) hf (fun hf => ?_) (fun hf => ?_)
            · exact hret _ _ _ _ _ _ dX10_tries_171 hP hS hf
            · refine lv_aload_n hx hb dX10_tries_107 rfl (lv_at hl 0 rfl) ?_
              refine gf_X10_52 S hK hP h0 dX10_tries_108 hf (fun x8 hx8 hf => ?_)
              refine lv_bipush (v := 8) hx hb dX10_tries_111 (by decide) ?_
              refine lv_iload_n hx hb dX10_tries_113 rfl (lv_at hl 1 rfl) ?_
              refine lv_imul hx hb dX10_tries_114 ?_
              refine lv_iload hx hb dX10_tries_115 (lv_at hl 4 rfl) ?_
              refine lv_iadd hx hb dX10_tries_117 ?_
              refine r_iald S hK hP hx8 dX10_tries_118 hf (fun x9 hf => ?_)
              refine r_if_lt (tgt := 165) S dX10_tries_119 (by decide) hf (fun hf => ?_) (fun hf => ?_)
              · refine lv_iinc (v := (v6 + 1)) (lv' := [(4, .int (v6 + 1)), (0, .ref (ad o)), (1, .int p1), (2, .int p2), (3, .int p3)]) hx hb dX10_tries_165 hl (k := 4) rfl rfl (by decide) rfl (fun ls hl => ?_)
                refine lv_goto (tgt := 100) hx hb dX10_tries_168 (by decide) ?_
                exact ih7 (v6 + 1) M H locs ls (lv_sub hl [1, 2, 3, 4, 0] rfl) hP hS hf
              · refine lv_aload_n hx hb dX10_tries_122 rfl (lv_at hl 0 rfl) ?_
                refine gf_X10_55 S hK hP h0 dX10_tries_123 hf (fun x10 hx10 hf => ?_)
                refine lv_iload_n hx hb dX10_tries_126 rfl (lv_at hl 1 rfl) ?_
                refine lv_iload hx hb dX10_tries_127 (lv_at hl 4 rfl) ?_
                refine r_iast S hK hG hP hS hx10 dX10_tries_129 hf (fun M H locs hP hS hf => ?_)
                refine lv_aload_n hx hb dX10_tries_130 rfl (lv_at hl 0 rfl) ?_
                refine lv_iload_n hx hb dX10_tries_131 rfl (lv_at hl 1 rfl) ?_
                refine lv_iconst (v := 1) hx hb dX10_tries_132 (by decide) ?_
                refine lv_iadd hx hb dX10_tries_133 ?_
                refine lv_iload_n hx hb dX10_tries_134 rfl (lv_at hl 2 rfl) ?_
                refine lv_aload_n hx hb dX10_tries_135 rfl (lv_at hl 0 rfl) ?_
                refine gf_X10_52 S hK hP h0 dX10_tries_136 hf (fun x11 hx11 hf => ?_)
                refine lv_bipush (v := 8) hx hb dX10_tries_139 (by decide) ?_
                refine lv_iload_n hx hb dX10_tries_141 rfl (lv_at hl 1 rfl) ?_
                refine lv_imul hx hb dX10_tries_142 ?_
                refine lv_iload hx hb dX10_tries_143 (lv_at hl 4 rfl) ?_
                refine lv_iadd hx hb dX10_tries_145 ?_
                refine r_iald S hK hP hx11 dX10_tries_146 hf (fun x12 hf => ?_)
                refine lv_iadd hx hb dX10_tries_147 ?_
                refine lv_iload_n hx hb dX10_tries_148 rfl (lv_at hl 3 rfl) ?_
                refine lv_iload hx hb dX10_tries_149 (lv_at hl 4 rfl) ?_
                refine lv_bipush (v := 6) hx hb dX10_tries_151 (by decide) ?_
                obtain ⟨k14, hk14, hf⟩ := jn_w hf
                have J14 : ∀ (v13 : Int32) (M : Mem) (H : Heap) (locs : List Loc) (ls : Array Slot), lv_has ls 5 [(0, .ref (ad o)), (1, .int p1), (2, .int p2), (3, .int p3), (4, .int v6)] → va_P D classes (gws K G2 ad M) H → va_S A s.heap H locs → k14 v13 M = some (r, M') → W p l e (rmD 12 400 (d + 1)) s m args below meth c H locs 0 0 Q (F0 m 161 ls [.int v13, .int p3, .int (p2 + x12), .int (p1 + 1), .ref (ad o)]) := by
                  intro v13 M H locs ls hl hP hS hf
                  rw [hk14] at hf
                  refine lv_iadd hx hb dX10_tries_161 ?_
                  refine r_callVv (As := [.int (p1 + 1), .int (p2 + x12), .int (p3 + v13)]) (rest := []) S hK hE hst hP hS h0 (by decide) rfl (cwg_X10_311 ⟨rfl, rfl⟩ ht (rdg (by decide))) rfl hl.1 rfl (Nat.le_of_ble_eq_true rfl) dX10_tries_162 z2 (fun _ _ h => hg_X10_tries _ _ _ _ h0 h) hf (fun x15 M H locs hP hS hf => ?_)
                  refine lv_iinc (v := (v6 + 1)) (lv' := [(4, .int (v6 + 1)), (0, .ref (ad o)), (1, .int p1), (2, .int p2), (3, .int p3)]) hx hb dX10_tries_165 hl (k := 4) rfl rfl (by decide) rfl (fun ls hl => ?_)
                  refine lv_goto (tgt := 100) hx hb dX10_tries_168 (by decide) ?_
                  exact ih7 (v6 + 1) M H locs ls (lv_sub hl [1, 2, 3, 4, 0] rfl) hP hS hf
                refine r_icmp_lt (tgt := 160) S dX10_tries_153 (by decide) hf (fun hf => ?_) (fun hf => ?_)
                · refine lv_iconst (v := 0) hx hb dX10_tries_160 (by decide) ?_
                  exact J14 0 M H locs ls (lv_sub hl [0, 1, 2, 3, 4] rfl) hP hS hf
                · refine lv_iconst (v := 1) hx hb dX10_tries_156 (by decide) ?_
                  refine lv_goto (tgt := 161) hx hb dX10_tries_157 (by decide) ?_
                  exact J14 1 M H locs ls (lv_sub hl [0, 1, 2, 3, 4] rfl) hP hS hf
        exact L7 _ 1 M H locs ls (lv_sub hl [1, 2, 3, 4, 0] rfl) hP hS hf
      · refine lv_aload_n hx hb dX10_tries_34 rfl (lv_at hl 0 rfl) ?_
        refine gf_X10_305 S hK hP h0 dX10_tries_35 hf (fun x16 hf => ?_)
        obtain ⟨k17, hk17, hf⟩ := jn_w hf
        have J17 : ∀ (M : Mem) (H : Heap) (locs : List Loc) (ls : Array Slot), lv_has ls 5 [(0, .ref (ad o)), (1, .int p1), (2, .int p2), (3, .int p3)] → va_P D classes (gws K G2 ad M) H → va_S A s.heap H locs → k17 M = some (r, M') → W p l e (rmD 12 400 (d + 1)) s m args below meth c H locs 0 0 Q (F0 m 57 ls []) := by
          intro M H locs ls hl hP hS hf
          rw [hk17] at hf
          refine lv_aload_n hx hb dX10_tries_57 rfl (lv_at hl 0 rfl) ?_
          refine lv_iload_n hx hb dX10_tries_58 rfl (lv_at hl 2 rfl) ?_
          refine pf_X10_305 S hK hG hP hS h0 dX10_tries_59 hf (fun M H locs hP hS hf => ?_)
          refine lv_aload_n hx hb dX10_tries_62 rfl (lv_at hl 0 rfl) ?_
          refine lv_iload_n hx hb dX10_tries_63 rfl (lv_at hl 3 rfl) ?_
          refine pf_X10_308 S hK hG hP hS h0 dX10_tries_64 hf (fun M H locs hP hS hf => ?_)
          refine lv_iconst (v := 0) hx hb dX10_tries_67 (by decide) ?_
          refine lv_istore (lv' := [(4, .int 0), (0, .ref (ad o)), (1, .int p1), (2, .int p2), (3, .int p3)]) hx hb dX10_tries_68 hl (by decide) rfl (fun ls hl => ?_)
          obtain ⟨F19, hF19, hf⟩ := it1_g hf
          have L19 : ∀ (n : Nat) (v18 : Int32) (M : Mem) (H : Heap) (locs : List Loc) (ls : Array Slot), lv_has ls 5 [(0, .ref (ad o)), (1, .int p1), (4, .int v18)] → va_P D classes (gws K G2 ad M) H → va_S A s.heap H locs → it1 F19 n v18 M = some (r, M') → W p l e (rmD 12 400 (d + 1)) s m args below meth c H locs 0 0 Q (F0 m 70 ls []) := by
            intro n
            induction n with
            | zero => intro v18 M H locs ls hl hP hS hf; exact nomatch hf
            | succ n ih19 =>
              intro v18 M H locs ls hl hP hS hf
              obtain ⟨rc19, hrc19, hf⟩ := it1_w hf
              rw [← hrc19] at ih19
              rw [hF19] at hf
              refine lv_iload hx hb dX10_tries_70 (lv_at hl 2 rfl) ?_
              refine lv_iload_n hx hb dX10_tries_72 rfl (lv_at hl 1 rfl) ?_
              refine r_icmp_ge (tgt := 96) S dX10_tries_73 (by decide) hf (fun hf => ?_) (fun hf => ?_)
              · exact hret _ _ _ _ _ _ dX10_tries_96 hP hS hf
              · refine lv_aload_n hx hb dX10_tries_76 rfl (lv_at hl 0 rfl) ?_
                refine gf_X10_58 S hK hP h0 dX10_tries_77 hf (fun x20 hx20 hf => ?_)
                refine lv_iload hx hb dX10_tries_80 (lv_at hl 2 rfl) ?_
                refine lv_aload_n hx hb dX10_tries_82 rfl (lv_at hl 0 rfl) ?_
                refine gf_X10_55 S hK hP h0 dX10_tries_83 hf (fun x21 hx21 hf => ?_)
                refine lv_iload hx hb dX10_tries_86 (lv_at hl 2 rfl) ?_
                refine r_iald S hK hP hx21 dX10_tries_88 hf (fun x22 hf => ?_)
                refine r_iast S hK hG hP hS hx20 dX10_tries_89 hf (fun M H locs hP hS hf => ?_)
                refine lv_iinc (v := (v18 + 1)) (lv' := [(4, .int (v18 + 1)), (0, .ref (ad o)), (1, .int p1)]) hx hb dX10_tries_90 hl (k := 2) rfl rfl (by decide) rfl (fun ls hl => ?_)
                refine lv_goto (tgt := 70) hx hb dX10_tries_93 (by decide) ?_
                exact ih19 (v18 + 1) M H locs ls (lv_sub hl [1, 2, 0] rfl) hP hS hf
          exact L19 _ 0 M H locs ls (lv_sub hl [1, 2, 0] rfl) hP hS hf
        refine r_if_lt (tgt := 57) S dX10_tries_38 (by decide) hf (fun hf => ?_) (fun hf => ?_)
        · exact J17 M H locs ls (lv_sub hl [0, 1, 2, 3] rfl) hP hS hf
        · refine lv_iload_n hx hb dX10_tries_41 rfl (lv_at hl 2 rfl) ?_
          refine lv_aload_n hx hb dX10_tries_42 rfl (lv_at hl 0 rfl) ?_
          refine gf_X10_305 S hK hP h0 dX10_tries_43 hf (fun x23 hf => ?_)
          refine r_icmp_lt (tgt := 57) S dX10_tries_46 (by decide) hf (fun hf => ?_) (fun hf => ?_)
          · exact J17 M H locs ls (lv_sub hl [0, 1, 2, 3] rfl) hP hS hf
          · refine lv_iload_n hx hb dX10_tries_49 rfl (lv_at hl 3 rfl) ?_
            refine lv_aload_n hx hb dX10_tries_50 rfl (lv_at hl 0 rfl) ?_
            refine gf_X10_308 S hK hP h0 dX10_tries_51 hf (fun x24 hf => ?_)
            refine r_icmp_ge (tgt := 96) S dX10_tries_54 (by decide) hf (fun hf => ?_) (fun hf => ?_)
            · exact hret _ _ _ _ _ _ dX10_tries_96 hP hS hf
            · exact J17 M H locs ls (lv_sub hl [0, 1, 2, 3] rfl) hP hS hf
    refine r_if_lt (tgt := 24) S dX10_tries_12 (by decide) hf (fun hf => ?_) (fun hf => ?_)
    · exact J3 M H locs ls (lv_sub hl [0, 1, 2, 3] rfl) hP hS hf
    · refine lv_iload_n hx hb dX10_tries_15 rfl (lv_at hl 2 rfl) ?_
      refine lv_aload_n hx hb dX10_tries_16 rfl (lv_at hl 0 rfl) ?_
      refine gf_X10_305 S hK hP h0 dX10_tries_17 hf (fun x25 hf => ?_)
      refine r_icmp_le (tgt := 24) S dX10_tries_20 (by decide) hf (fun hf => ?_) (fun hf => ?_)
      · exact J3 M H locs ls (lv_sub hl [0, 1, 2, 3] rfl) hP hS hf
      · exact hret _ _ _ _ _ _ dX10_tries_23 hP hS hf
def GP_tr : Nat → (Nat → Int32 → Int32 → Int32 → Mem → Option (Int32 × Mem))
  | 0 => fun _ _ _ _ _ => none
  | d + 1 => F_X10_tries ((GP_tr d))
theorem cg_tr {l : Launch} {D : va_G} {K : Ks} {ad : Nat → Nat} {A : Nat → Prop} (hG : Gok G2 ad A) : ∀ d : Nat, (∀ (o : Nat) (p1 : Int32) (p2 : Int32) (p3 : Int32), gcl G2 o = 10 → ∀ {M : Mem} {r : Int32} {M' : Mem}, (GP_tr d) o p1 p2 p3 M = some (r, M') → Cv l E2 D K G2 ad A yX10_tries (ws_of yX10_tries cX10_tries 5 none) (rmD 12 400 d) [.ref (ad o), .int p1, .int p2, .int p3] M M') := by
  intro d
  induction d with
  | zero => exact (by intros; next hf => exact nomatch hf)
  | succ d ih => exact (by intro o p1 p2 p3 h0 M r M' hf; exact co_X10_tries hG (ih) h0 hf)
def f_X10_tries (o : Nat) (p1 : Int32) (p2 : Int32) (p3 : Int32) (M : Mem) : Option (Int32 × Mem) := (GP_tr 10) o p1 p2 p3 M
def rm_X10_tries : Room := { frames := 22, cells := 0, slots := 0, locals := 1200 }
theorem c_X10_tries {l : Launch} {D : va_G} {K : Ks} {ad : Nat → Nat} {A : Nat → Prop} (hG : Gok G2 ad A) {o : Nat} {p1 : Int32} {p2 : Int32} {p3 : Int32} (h0 : gcl G2 o = 10) {M : Mem} {r : Int32} {M' : Mem} (hf : f_X10_tries o p1 p2 p3 M = some (r, M')) : Cv l E2 D K G2 ad A yX10_tries (ws_of yX10_tries cX10_tries 5 none) rm_X10_tries [.ref (ad o), .int p1, .int p2, .int p3] M M' := (cg_tr hG 10) o p1 p2 p3 h0 hf
theorem cw_X10_311 {R : Room} {s : State} {args : Array Value} (ht : ∀ w ∈ Tw, w.before args s = true) (hR : rm_X10_tries.frames + 1 ≤ R.frames ∧ 8 + (5 + 11) + rm_X10_tries.locals ≤ R.locals) : CallW R s args RX10 RX10 311 yX10_tries cX10_tries 5 none (ws_of yX10_tries cX10_tries 5 none) rm_X10_tries 0 0 3 := cw_V 3 ht k_1496 k_1498 k_54 k_73 k_1499 (by decide +kernel) rfl rfl hR
section
variable {p : Program} {l : Launch} {e : Env} {R : Room} {s : State} {m : MethodId} {args : Array Value} {below : List Frame} {meth : Method} {c : Code} {H : Heap} {locs : List Loc} {cells slots : Nat} {Q : State → Prop} {cc : ByteArray} {pc : Nat} {ls : Array Slot} {rest : List Value} {nL : Nat} {D : va_G} {K : Ks} {ad : Nat → Nat} {A : Nat → Prop} {M : Mem} {β : Type} {z : β}
theorem pf_X10_302 (S : CallFix p m c cc nL s args Tw RX10) (hK : va_K D classes (gty K) s) (hG : Gok G2 ad A) (hP : va_P D classes (gws K G2 ad M) H) (hS : va_S A s.heap H locs) {a : Nat} {v : Int32} {kk : Mem → Option β} (ha : gcl G2 a = 10) (hdg : decode cc pc = .ok (.putfield 302, 3)) (hf : mm (up M a 33 v) kk = some z) (w : ∀ M H locs, va_P D classes (gws K G2 ad M) H → va_S A s.heap H locs → kk M = some z → W p l e R s m args below meth c H locs cells slots Q (F0 m (pc + 3) ls rest)) : W p l e R s m args below meth c H locs cells slots Q (F0 m pc ls (.int v :: .ref (ad a) :: rest)) := r_putt S hK hG hP hS (k := 33) (T := TX10) inX10 rfl (by decide) tyX10 tyX10_ok nmX10 (by decide) rfl rfl rfl ha (sf_X10_33 ha) k_1139 hdg hf w
end
def f_X10_story (o : Nat) (p1 : Int32) (p2 : Int32) (M : Mem) : Option (Int32 × Mem) :=
  bd (f_X10_isIn (Int32.toInt64 p1) 0 6 M) fun x1 M =>
  if x1 = 0 then
    some ((-1000000001), M)
  else
    vv (grf G2 o 0) fun x2 =>
    ld M x2 3 3510 fun x3 =>
    bd (f_X10_isIn (Int32.toInt64 p2) 0 (Int32.toInt64 (1 + x3)) M) fun x4 M =>
    if x4 = 0 then
      some ((-1000000001), M)
    else
      it1 (fun rc6 (v5 : Int32) M =>
        vv (grf G2 o 0) fun x7 =>
        ld M x7 3 3510 fun x8 =>
        if v5 < x8 then
          vv (grf G2 o 0) fun x15 =>
          ld M x15 (350 + v5) 3510 fun x16 =>
          it1 (fun rc18 (v17 : Int32) M =>
            if 7 < v17 then
              rc6 (v5 + 1) M
            else
              vv (grf G2 o 28) fun x19 =>
              bd (f_X10_fits o x16 v17 M) fun x20 M =>
              jn (fun (v21 : Int32) (M : Mem) =>
                st M x19 ((8 * v5) + v17) 48 v21 fun M =>
                rc18 (v17 + 1) M
              ) fun k22 =>
              if x20 = 0 then
                k22 (-1) M
              else
                vv (grf G2 o 0) fun x23 =>
                bd (f_X10_figureAt o x16 M) fun x24 M =>
                ld M x23 (x24 + 3) 3510 fun x25 =>
                bd (f_X10_priceOf v17 x25 M) fun x26 M =>
                k22 x26 M
          ) fuel 1 M
        else
          mm (up M o 31 (-1)) fun M =>
          mm (up M o 32 0) fun M =>
          mm (up M o 33 p1) fun M =>
          bd (f_X10_tries o 0 0 0 M) fun _ M =>
          vv (M o 31) fun x10 =>
          if x10 < 0 then
            some ((-1000000005), M)
          else
            if p2 = 0 then
              vv (M o 31) fun x14 =>
              some (x14, M)
            else
              if p2 = 1 then
                vv (M o 32) fun x13 =>
                some (x13, M)
              else
                vv (grf G2 o 30) fun x11 =>
                ld M x11 (p2 - 2) 6 fun x12 =>
                some (x12, M)
      ) fuel 0 M
def rm_X10_story : Room := { frames := 23, cells := 0, slots := 0, locals := 1224 }
set_option maxHeartbeats 4000000 in
set_option maxRecDepth 100000 in
theorem c_X10_story {l : Launch} {D : va_G} {K : Ks} {ad : Nat → Nat} {A : Nat → Prop} (hG : Gok G2 ad A) {o : Nat} {p1 : Int32} {p2 : Int32} (h0 : gcl G2 o = 10) {M : Mem} {r : Int32} {M' : Mem} (hf : f_X10_story o p1 p2 M = some (r, M')) : Ct l E2 D K G2 ad A yX10_story (ws_of yX10_story cX10_story 6 (some .int)) rm_X10_story .int [.ref (ad o), .int p1, .int p2] M r M' := by
  have hst : Est A E2 := est2
  refine Ct.ofW (by decide) (Nat.le_of_ble_eq_true rfl) ?_
  intro p e s m args below meth c Q H locs ls S hK hE hP hS hl hret
  have hx := S.1
  have hb := S.2.1
  have hown := S.2.2.2.1
  have ht := S.2.2.2.2
  have hl : lv_has ls 6 [(0, .ref (ad o)), (1, .int p1), (2, .int p2)] := hl
  unfold f_X10_story at hf
  refine lv_iload_n hx hb dX10_story_0 rfl (lv_at hl 1 rfl) ?_
  refine lv_i2l (v := (Int32.toInt64 p1)) hx hb dX10_story_1 rfl ?_
  refine lv_lconst (v := 0) hx hb dX10_story_2 (by decide) ?_
  refine lv_ldc2 (v := 6) hx hb hown (ht _ k_1495) dX10_story_3 ?_
  refine r_callS (As := [.long (Int32.toInt64 p1), .long 0, .long 6]) (rest := []) S hK hE hst hP hS (cw_X10_74 ht ⟨Nat.le_of_ble_eq_true rfl, Nat.le_of_ble_eq_true rfl⟩) rfl hl.1 rfl (Nat.le_of_ble_eq_true rfl) dX10_story_6 z2 (fun _ _ h => c_X10_isIn hG  h) hf (fun x1 M H locs hP hS bx1 hf => ?_)
  refine r_if_eq (tgt := 30) S dX10_story_9 (by decide) hf (fun hf => ?_) (fun hf => ?_)
  · refine lv_ldc (v := (-1000000001)) hx hb hown (ht _ k_1232) dX10_story_30 ?_
    exact hret _ _ _ _ _ _ dX10_story_32 hP hS rfl hf
  · refine lv_iload_n hx hb dX10_story_12 rfl (lv_at hl 2 rfl) ?_
    refine lv_i2l (v := (Int32.toInt64 p2)) hx hb dX10_story_13 rfl ?_
    refine lv_lconst (v := 0) hx hb dX10_story_14 (by decide) ?_
    refine lv_iconst (v := 1) hx hb dX10_story_15 (by decide) ?_
    refine lv_aload_n hx hb dX10_story_16 rfl (lv_at hl 0 rfl) ?_
    refine gf_X10_7 S hK hP h0 dX10_story_17 hf (fun x2 hx2 hf => ?_)
    refine lv_iconst (v := 3) hx hb dX10_story_20 (by decide) ?_
    refine r_iald S hK hP hx2 dX10_story_21 hf (fun x3 hf => ?_)
    refine lv_iadd hx hb dX10_story_22 ?_
    refine lv_i2l (v := (Int32.toInt64 (1 + x3))) hx hb dX10_story_23 rfl ?_
    refine r_callS (As := [.long (Int32.toInt64 p2), .long 0, .long (Int32.toInt64 (1 + x3))]) (rest := []) S hK hE hst hP hS (cw_X10_74 ht ⟨Nat.le_of_ble_eq_true rfl, Nat.le_of_ble_eq_true rfl⟩) rfl hl.1 rfl (Nat.le_of_ble_eq_true rfl) dX10_story_24 z2 (fun _ _ h => c_X10_isIn hG  h) hf (fun x4 M H locs hP hS bx4 hf => ?_)
    refine r_if_ne (tgt := 33) S dX10_story_27 (by decide) hf (fun hf => ?_) (fun hf => ?_)
    · refine lv_iconst (v := 0) hx hb dX10_story_33 (by decide) ?_
      refine lv_istore_n (lv' := [(3, .int 0), (0, .ref (ad o)), (1, .int p1), (2, .int p2)]) hx hb dX10_story_34 rfl hl (by decide) rfl (fun ls hl => ?_)
      obtain ⟨F6, hF6, hf⟩ := it1_g hf
      have L6 : ∀ (n : Nat) (v5 : Int32) (M : Mem) (H : Heap) (locs : List Loc) (ls : Array Slot), lv_has ls 6 [(0, .ref (ad o)), (1, .int p1), (2, .int p2), (3, .int v5)] → va_P D classes (gws K G2 ad M) H → va_S A s.heap H locs → it1 F6 n v5 M = some (r, M') → W p l e rm_X10_story s m args below meth c H locs 0 0 Q (F0 m 35 ls []) := by
        intro n
        induction n with
        | zero => intro v5 M H locs ls hl hP hS hf; exact nomatch hf
        | succ n ih6 =>
          intro v5 M H locs ls hl hP hS hf
          obtain ⟨rc6, hrc6, hf⟩ := it1_w hf
          rw [← hrc6] at ih6
          rw [hF6] at hf
          refine lv_iload_n hx hb dX10_story_35 rfl (lv_at hl 3 rfl) ?_
          refine lv_aload_n hx hb dX10_story_36 rfl (lv_at hl 0 rfl) ?_
          refine gf_X10_7 S hK hP h0 dX10_story_37 hf (fun x7 hx7 hf => ?_)
          refine lv_iconst (v := 3) hx hb dX10_story_40 (by decide) ?_
          refine r_iald S hK hP hx7 dX10_story_41 hf (fun x8 hf => ?_)
          refine r_icmp_ge (tgt := 124) S dX10_story_42 (by decide) hf (fun hf => ?_) (fun hf => ?_)
          · refine lv_aload_n hx hb dX10_story_124 rfl (lv_at hl 0 rfl) ?_
            refine lv_iconst (v := (-1)) hx hb dX10_story_125 (by decide) ?_
            refine pf_X10_305 S hK hG hP hS h0 dX10_story_126 hf (fun M H locs hP hS hf => ?_)
            refine lv_aload_n hx hb dX10_story_129 rfl (lv_at hl 0 rfl) ?_
            refine lv_iconst (v := 0) hx hb dX10_story_130 (by decide) ?_
            refine pf_X10_308 S hK hG hP hS h0 dX10_story_131 hf (fun M H locs hP hS hf => ?_)
            refine lv_aload_n hx hb dX10_story_134 rfl (lv_at hl 0 rfl) ?_
            refine lv_iload_n hx hb dX10_story_135 rfl (lv_at hl 1 rfl) ?_
            refine pf_X10_302 S hK hG hP hS h0 dX10_story_136 hf (fun M H locs hP hS hf => ?_)
            refine lv_aload_n hx hb dX10_story_139 rfl (lv_at hl 0 rfl) ?_
            refine lv_iconst (v := 0) hx hb dX10_story_140 (by decide) ?_
            refine lv_iconst (v := 0) hx hb dX10_story_141 (by decide) ?_
            refine lv_iconst (v := 0) hx hb dX10_story_142 (by decide) ?_
            refine r_callVv (As := [.int 0, .int 0, .int 0]) (rest := []) S hK hE hst hP hS h0 (by decide) rfl (cw_X10_311 ht ⟨Nat.le_of_ble_eq_true rfl, Nat.le_of_ble_eq_true rfl⟩) rfl hl.1 rfl (Nat.le_of_ble_eq_true rfl) dX10_story_143 z2 (fun _ _ h => c_X10_tries hG  h0 h) hf (fun x9 M H locs hP hS hf => ?_)
            refine lv_aload_n hx hb dX10_story_146 rfl (lv_at hl 0 rfl) ?_
            refine gf_X10_305 S hK hP h0 dX10_story_147 hf (fun x10 hf => ?_)
            refine r_if_ge (tgt := 156) S dX10_story_150 (by decide) hf (fun hf => ?_) (fun hf => ?_)
            · refine lv_iload_n hx hb dX10_story_156 rfl (lv_at hl 2 rfl) ?_
              refine r_if_ne (tgt := 167) S dX10_story_157 (by decide) hf (fun hf => ?_) (fun hf => ?_)
              · refine lv_iload_n hx hb dX10_story_167 rfl (lv_at hl 2 rfl) ?_
                refine lv_iconst (v := 1) hx hb dX10_story_168 (by decide) ?_
                refine r_icmp_ne (tgt := 179) S dX10_story_169 (by decide) hf (fun hf => ?_) (fun hf => ?_)
                · refine lv_aload_n hx hb dX10_story_179 rfl (lv_at hl 0 rfl) ?_
                  refine gf_X10_58 S hK hP h0 dX10_story_180 hf (fun x11 hx11 hf => ?_)
                  refine lv_iload_n hx hb dX10_story_183 rfl (lv_at hl 2 rfl) ?_
                  refine lv_iconst (v := 2) hx hb dX10_story_184 (by decide) ?_
                  refine lv_isub hx hb dX10_story_185 ?_
                  refine r_iald S hK hP hx11 dX10_story_186 hf (fun x12 hf => ?_)
                  exact hret _ _ _ _ _ _ dX10_story_187 hP hS rfl hf
                · refine lv_aload_n hx hb dX10_story_172 rfl (lv_at hl 0 rfl) ?_
                  refine gf_X10_308 S hK hP h0 dX10_story_173 hf (fun x13 hf => ?_)
                  refine lv_goto (tgt := 187) hx hb dX10_story_176 (by decide) ?_
                  exact hret _ _ _ _ _ _ dX10_story_187 hP hS rfl hf
              · refine lv_aload_n hx hb dX10_story_160 rfl (lv_at hl 0 rfl) ?_
                refine gf_X10_305 S hK hP h0 dX10_story_161 hf (fun x14 hf => ?_)
                refine lv_goto (tgt := 187) hx hb dX10_story_164 (by decide) ?_
                exact hret _ _ _ _ _ _ dX10_story_187 hP hS rfl hf
            · refine lv_ldc (v := (-1000000005)) hx hb hown (ht _ k_1268) dX10_story_153 ?_
              exact hret _ _ _ _ _ _ dX10_story_155 hP hS rfl hf
          · refine lv_aload_n hx hb dX10_story_45 rfl (lv_at hl 0 rfl) ?_
            refine gf_X10_7 S hK hP h0 dX10_story_46 hf (fun x15 hx15 hf => ?_)
            refine lv_sipush (v := 350) hx hb dX10_story_49 (by decide) ?_
            refine lv_iload_n hx hb dX10_story_52 rfl (lv_at hl 3 rfl) ?_
            refine lv_iadd hx hb dX10_story_53 ?_
            refine r_iald S hK hP hx15 dX10_story_54 hf (fun x16 hf => ?_)
            refine lv_istore (lv' := [(4, .int x16), (0, .ref (ad o)), (1, .int p1), (2, .int p2), (3, .int v5)]) hx hb dX10_story_55 hl (by decide) rfl (fun ls hl => ?_)
            refine lv_iconst (v := 1) hx hb dX10_story_57 (by decide) ?_
            refine lv_istore (lv' := [(5, .int 1), (4, .int x16), (0, .ref (ad o)), (1, .int p1), (2, .int p2), (3, .int v5)]) hx hb dX10_story_58 hl (by decide) rfl (fun ls hl => ?_)
            obtain ⟨F18, hF18, hf⟩ := it1_g hf
            have L18 : ∀ (n : Nat) (v17 : Int32) (M : Mem) (H : Heap) (locs : List Loc) (ls : Array Slot), lv_has ls 6 [(0, .ref (ad o)), (1, .int p1), (2, .int p2), (3, .int v5), (4, .int x16), (5, .int v17)] → va_P D classes (gws K G2 ad M) H → va_S A s.heap H locs → it1 F18 n v17 M = some (r, M') → W p l e rm_X10_story s m args below meth c H locs 0 0 Q (F0 m 60 ls []) := by
              intro n
              induction n with
              | zero => intro v17 M H locs ls hl hP hS hf; exact nomatch hf
              | succ n ih18 =>
                intro v17 M H locs ls hl hP hS hf
                obtain ⟨rc18, hrc18, hf⟩ := it1_w hf
                rw [← hrc18] at ih18
                rw [hF18] at hf
                refine lv_iload hx hb dX10_story_60 (lv_at hl 5 rfl) ?_
                refine lv_bipush (v := 7) hx hb dX10_story_62 (by decide) ?_
                refine r_icmp_gt (tgt := 118) S dX10_story_64 (by decide) hf (fun hf => ?_) (fun hf => ?_)
                · refine lv_iinc (v := (v5 + 1)) (lv' := [(3, .int (v5 + 1)), (0, .ref (ad o)), (1, .int p1), (2, .int p2), (4, .int x16), (5, .int v17)]) hx hb dX10_story_118 hl (k := 3) rfl rfl (by decide) rfl (fun ls hl => ?_)
                  refine lv_goto (tgt := 35) hx hb dX10_story_121 (by decide) ?_
                  exact ih6 (v5 + 1) M H locs ls (lv_sub hl [1, 2, 3, 0] rfl) hP hS hf
                · refine lv_aload_n hx hb dX10_story_67 rfl (lv_at hl 0 rfl) ?_
                  refine gf_X10_52 S hK hP h0 dX10_story_68 hf (fun x19 hx19 hf => ?_)
                  refine lv_bipush (v := 8) hx hb dX10_story_71 (by decide) ?_
                  refine lv_iload_n hx hb dX10_story_73 rfl (lv_at hl 3 rfl) ?_
                  refine lv_imul hx hb dX10_story_74 ?_
                  refine lv_iload hx hb dX10_story_75 (lv_at hl 5 rfl) ?_
                  refine lv_iadd hx hb dX10_story_77 ?_
                  refine lv_aload_n hx hb dX10_story_78 rfl (lv_at hl 0 rfl) ?_
                  refine lv_iload hx hb dX10_story_79 (lv_at hl 4 rfl) ?_
                  refine lv_iload hx hb dX10_story_81 (lv_at hl 5 rfl) ?_
                  refine r_callV (As := [.int x16, .int v17]) (rest := [.int ((8 * v5) + v17), .ref (ad x19)]) S hK hE hst hP hS h0 (by decide) rfl (cw_X10_144 ht ⟨Nat.le_of_ble_eq_true rfl, Nat.le_of_ble_eq_true rfl⟩) rfl hl.1 rfl (Nat.le_of_ble_eq_true rfl) dX10_story_83 z2 (fun _ _ h => c_X10_fits hG  h0 h) hf (fun x20 M H locs hP hS bx20 hf => ?_)
                  obtain ⟨k22, hk22, hf⟩ := jn_w hf
                  have J22 : ∀ (v21 : Int32) (M : Mem) (H : Heap) (locs : List Loc) (ls : Array Slot), lv_has ls 6 [(0, .ref (ad o)), (1, .int p1), (2, .int p2), (3, .int v5), (4, .int x16), (5, .int v17)] → va_P D classes (gws K G2 ad M) H → va_S A s.heap H locs → k22 v21 M = some (r, M') → W p l e rm_X10_story s m args below meth c H locs 0 0 Q (F0 m 111 ls [.int v21, .int ((8 * v5) + v17), .ref (ad x19)]) := by
                    intro v21 M H locs ls hl hP hS hf
                    rw [hk22] at hf
                    refine r_iast S hK hG hP hS hx19 dX10_story_111 hf (fun M H locs hP hS hf => ?_)
                    refine lv_iinc (v := (v17 + 1)) (lv' := [(5, .int (v17 + 1)), (0, .ref (ad o)), (1, .int p1), (2, .int p2), (3, .int v5), (4, .int x16)]) hx hb dX10_story_112 hl (k := 5) rfl rfl (by decide) rfl (fun ls hl => ?_)
                    refine lv_goto (tgt := 60) hx hb dX10_story_115 (by decide) ?_
                    exact ih18 (v17 + 1) M H locs ls (lv_sub hl [1, 2, 3, 4, 5, 0] rfl) hP hS hf
                  refine r_if_eq (tgt := 110) S dX10_story_86 (by decide) hf (fun hf => ?_) (fun hf => ?_)
                  · refine lv_iconst (v := (-1)) hx hb dX10_story_110 (by decide) ?_
                    exact J22 (-1) M H locs ls (lv_sub hl [0, 1, 2, 3, 4, 5] rfl) hP hS hf
                  · refine lv_iload hx hb dX10_story_89 (lv_at hl 5 rfl) ?_
                    refine lv_aload_n hx hb dX10_story_91 rfl (lv_at hl 0 rfl) ?_
                    refine gf_X10_7 S hK hP h0 dX10_story_92 hf (fun x23 hx23 hf => ?_)
                    refine lv_aload_n hx hb dX10_story_95 rfl (lv_at hl 0 rfl) ?_
                    refine lv_iload hx hb dX10_story_96 (lv_at hl 4 rfl) ?_
                    refine r_callV (As := [.int x16]) (rest := [.ref (ad x23), .int v17, .int ((8 * v5) + v17), .ref (ad x19)]) S hK hE hst hP hS h0 (by decide) rfl (cw_X10_87 ht ⟨Nat.le_of_ble_eq_true rfl, Nat.le_of_ble_eq_true rfl⟩) rfl hl.1 rfl (Nat.le_of_ble_eq_true rfl) dX10_story_98 z2 (fun _ _ h => c_X10_figureAt hG  h0 h) hf (fun x24 M H locs hP hS bx24 hf => ?_)
                    refine lv_iconst (v := 3) hx hb dX10_story_101 (by decide) ?_
                    refine lv_iadd hx hb dX10_story_102 ?_
                    refine r_iald S hK hP hx23 dX10_story_103 hf (fun x25 hf => ?_)
                    refine r_callS (As := [.int v17, .int x25]) (rest := [.int ((8 * v5) + v17), .ref (ad x19)]) S hK hE hst hP hS (cw_X10_148 ht ⟨Nat.le_of_ble_eq_true rfl, Nat.le_of_ble_eq_true rfl⟩) rfl hl.1 rfl (Nat.le_of_ble_eq_true rfl) dX10_story_104 z2 (fun _ _ h => c_X10_priceOf hG  h) hf (fun x26 M H locs hP hS bx26 hf => ?_)
                    refine lv_goto (tgt := 111) hx hb dX10_story_107 (by decide) ?_
                    exact J22 x26 M H locs ls (lv_sub hl [0, 1, 2, 3, 4, 5] rfl) hP hS hf
            exact L18 _ 1 M H locs ls (lv_sub hl [2, 3, 4, 5, 1, 0] rfl) hP hS hf
      exact L6 _ 0 M H locs ls (lv_sub hl [1, 2, 3, 0] rfl) hP hS hf
    · refine lv_ldc (v := (-1000000001)) hx hb hown (ht _ k_1232) dX10_story_30 ?_
      exact hret _ _ _ _ _ _ dX10_story_32 hP hS rfl hf
def f_X10_clear (o : Nat) (M : Mem) : Option (Int32 × Mem) :=
  bd (f_X10_becomes o 3 0 M) fun x1 M =>
  some (x1, M)
def rm_X10_clear : Room := { frames := 1, cells := 0, slots := 0, locals := 23 }
set_option maxHeartbeats 4000000 in
set_option maxRecDepth 100000 in
theorem c_X10_clear {l : Launch} {D : va_G} {K : Ks} {ad : Nat → Nat} {A : Nat → Prop} (hG : Gok G2 ad A) {o : Nat} (h0 : gcl G2 o = 10) {M : Mem} {r : Int32} {M' : Mem} (hf : f_X10_clear o M = some (r, M')) : Ct l E2 D K G2 ad A yX10_clear (ws_of yX10_clear cX10_clear 1 (some .int)) rm_X10_clear .int [.ref (ad o)] M r M' := by
  have hst : Est A E2 := est2
  refine Ct.ofW (by decide) (Nat.le_of_ble_eq_true rfl) ?_
  intro p e s m args below meth c Q H locs ls S hK hE hP hS hl hret
  have hx := S.1
  have hb := S.2.1
  have hown := S.2.2.2.1
  have ht := S.2.2.2.2
  have hl : lv_has ls 1 [(0, .ref (ad o))] := hl
  unfold f_X10_clear at hf
  refine lv_aload_n hx hb dX10_clear_0 rfl (lv_at hl 0 rfl) ?_
  refine lv_iconst (v := 3) hx hb dX10_clear_1 (by decide) ?_
  refine lv_iconst (v := 0) hx hb dX10_clear_2 (by decide) ?_
  refine r_callV (As := [.int 3, .int 0]) (rest := []) S hK hE hst hP hS h0 (by decide) rfl (cw_X10_155 ht ⟨Nat.le_of_ble_eq_true rfl, Nat.le_of_ble_eq_true rfl⟩) rfl hl.1 rfl (Nat.le_of_ble_eq_true rfl) dX10_clear_3 z2 (fun _ _ h => c_X10_becomes hG  h0 h) hf (fun x1 M H locs hP hS bx1 hf => ?_)
  exact hret _ _ _ _ _ _ dX10_clear_6 hP hS rfl hf
def f_X10_isPlace (p0 : Int32) (M : Mem) : Option (Int32 × Mem) :=
  bd (f_X10_isIn (Int32.toInt64 p0) 0 5 M) fun x1 M =>
  some (x1, M)
def rm_X10_isPlace : Room := { frames := 1, cells := 0, slots := 0, locals := 25 }
set_option maxHeartbeats 4000000 in
set_option maxRecDepth 100000 in
theorem c_X10_isPlace {l : Launch} {D : va_G} {K : Ks} {ad : Nat → Nat} {A : Nat → Prop} (hG : Gok G2 ad A) {p0 : Int32}  {M : Mem} {r : Int32} {M' : Mem} (hf : f_X10_isPlace p0 M = some (r, M')) : Ct l E2 D K G2 ad A yX10_isPlace (ws_of yX10_isPlace cX10_isPlace 1 (some .boolean)) rm_X10_isPlace .boolean [.int p0] M r M' := by
  have hst : Est A E2 := est2
  refine Ct.ofW (by decide) (Nat.le_of_ble_eq_true rfl) ?_
  intro p e s m args below meth c Q H locs ls S hK hE hP hS hl hret
  have hx := S.1
  have hb := S.2.1
  have hown := S.2.2.2.1
  have ht := S.2.2.2.2
  have hl : lv_has ls 1 [(0, .int p0)] := hl
  unfold f_X10_isPlace at hf
  refine lv_iload_n hx hb dX10_isPlace_0 rfl (lv_at hl 0 rfl) ?_
  refine lv_i2l (v := (Int32.toInt64 p0)) hx hb dX10_isPlace_1 rfl ?_
  refine lv_lconst (v := 0) hx hb dX10_isPlace_2 (by decide) ?_
  refine lv_ldc2 (v := 5) hx hb hown (ht _ k_1436) dX10_isPlace_3 ?_
  refine r_callS (As := [.long (Int32.toInt64 p0), .long 0, .long 5]) (rest := []) S hK hE hst hP hS (cw_X10_74 ht ⟨Nat.le_of_ble_eq_true rfl, Nat.le_of_ble_eq_true rfl⟩) rfl hl.1 rfl (Nat.le_of_ble_eq_true rfl) dX10_isPlace_6 z2 (fun _ _ h => c_X10_isIn hG  h) hf (fun x1 M H locs hP hS bx1 hf => ?_)
  exact hret _ _ _ _ _ _ dX10_isPlace_9 hP hS bx1 hf
theorem cw_X10_317 {R : Room} {s : State} {args : Array Value} (ht : ∀ w ∈ Tw, w.before args s = true) (hR : rm_X10_isPlace.frames + 1 ≤ R.frames ∧ 8 + (1 + 11) + rm_X10_isPlace.locals ≤ R.locals) : CallB R s args RX10 317 yX10_isPlace cX10_isPlace 1 (some .boolean) (ws_of yX10_isPlace cX10_isPlace 1 (some .boolean)) rm_X10_isPlace 0 0 1 ∧ (Cond.static yX10_isPlace).before args s = true := cw_S 1 ht k_1508 k_1509 k_73 k_1510 (by decide +kernel) rfl rfl hR
def f_X10_road (o : Nat) (p1 : Int32) (p2 : Int32) (p3 : Int32) (M : Mem) : Option (Int32 × Mem) :=
  bd (f_X10_isPlace p1 M) fun x1 M =>
  if x1 = 0 then
    some ((-1000000001), M)
  else
    bd (f_X10_isPlace p2 M) fun x2 M =>
    if x2 = 0 then
      some ((-1000000001), M)
    else
      if p1 = p2 then
        some ((-1000000001), M)
      else
        bd (f_X10_isIn (Int32.toInt64 p3) 0 30 M) fun x3 M =>
        if x3 = 0 then
          some ((-1000000001), M)
        else
          vv (grf G2 o 0) fun x4 =>
          st M x4 ((360 + (6 * p2)) + p1) 3510 p3 fun M =>
          bd (f_X10_becomes o ((360 + (6 * p1)) + p2) p3 M) fun x5 M =>
          some (x5, M)
def rm_X10_road : Room := { frames := 2, cells := 0, slots := 0, locals := 45 }
set_option maxHeartbeats 4000000 in
set_option maxRecDepth 100000 in
theorem c_X10_road {l : Launch} {D : va_G} {K : Ks} {ad : Nat → Nat} {A : Nat → Prop} (hG : Gok G2 ad A) {o : Nat} {p1 : Int32} {p2 : Int32} {p3 : Int32} (h0 : gcl G2 o = 10) {M : Mem} {r : Int32} {M' : Mem} (hf : f_X10_road o p1 p2 p3 M = some (r, M')) : Ct l E2 D K G2 ad A yX10_road (ws_of yX10_road cX10_road 4 (some .int)) rm_X10_road .int [.ref (ad o), .int p1, .int p2, .int p3] M r M' := by
  have hst : Est A E2 := est2
  refine Ct.ofW (by decide) (Nat.le_of_ble_eq_true rfl) ?_
  intro p e s m args below meth c Q H locs ls S hK hE hP hS hl hret
  have hx := S.1
  have hb := S.2.1
  have hown := S.2.2.2.1
  have ht := S.2.2.2.2
  have hl : lv_has ls 4 [(0, .ref (ad o)), (1, .int p1), (2, .int p2), (3, .int p3)] := hl
  unfold f_X10_road at hf
  refine lv_iload_n hx hb dX10_road_0 rfl (lv_at hl 1 rfl) ?_
  refine r_callS (As := [.int p1]) (rest := []) S hK hE hst hP hS (cw_X10_317 ht ⟨Nat.le_of_ble_eq_true rfl, Nat.le_of_ble_eq_true rfl⟩) rfl hl.1 rfl (Nat.le_of_ble_eq_true rfl) dX10_road_1 z2 (fun _ _ h => c_X10_isPlace hG  h) hf (fun x1 M H locs hP hS bx1 hf => ?_)
  refine r_if_eq (tgt := 31) S dX10_road_4 (by decide) hf (fun hf => ?_) (fun hf => ?_)
  · refine lv_ldc (v := (-1000000001)) hx hb hown (ht _ k_1232) dX10_road_31 ?_
    exact hret _ _ _ _ _ _ dX10_road_33 hP hS rfl hf
  · refine lv_iload_n hx hb dX10_road_7 rfl (lv_at hl 2 rfl) ?_
    refine r_callS (As := [.int p2]) (rest := []) S hK hE hst hP hS (cw_X10_317 ht ⟨Nat.le_of_ble_eq_true rfl, Nat.le_of_ble_eq_true rfl⟩) rfl hl.1 rfl (Nat.le_of_ble_eq_true rfl) dX10_road_8 z2 (fun _ _ h => c_X10_isPlace hG  h) hf (fun x2 M H locs hP hS bx2 hf => ?_)
    refine r_if_eq (tgt := 31) S dX10_road_11 (by decide) hf (fun hf => ?_) (fun hf => ?_)
    · refine lv_ldc (v := (-1000000001)) hx hb hown (ht _ k_1232) dX10_road_31 ?_
      exact hret _ _ _ _ _ _ dX10_road_33 hP hS rfl hf
    · refine lv_iload_n hx hb dX10_road_14 rfl (lv_at hl 1 rfl) ?_
      refine lv_iload_n hx hb dX10_road_15 rfl (lv_at hl 2 rfl) ?_
      refine r_icmp_eq (tgt := 31) S dX10_road_16 (by decide) hf (fun hf => ?_) (fun hf => ?_)
      · refine lv_ldc (v := (-1000000001)) hx hb hown (ht _ k_1232) dX10_road_31 ?_
        exact hret _ _ _ _ _ _ dX10_road_33 hP hS rfl hf
      · refine lv_iload_n hx hb dX10_road_19 rfl (lv_at hl 3 rfl) ?_
        refine lv_i2l (v := (Int32.toInt64 p3)) hx hb dX10_road_20 rfl ?_
        refine lv_lconst (v := 0) hx hb dX10_road_21 (by decide) ?_
        refine lv_ldc2 (v := 30) hx hb hown (ht _ k_1511) dX10_road_22 ?_
        refine r_callS (As := [.long (Int32.toInt64 p3), .long 0, .long 30]) (rest := []) S hK hE hst hP hS (cw_X10_74 ht ⟨Nat.le_of_ble_eq_true rfl, Nat.le_of_ble_eq_true rfl⟩) rfl hl.1 rfl (Nat.le_of_ble_eq_true rfl) dX10_road_25 z2 (fun _ _ h => c_X10_isIn hG  h) hf (fun x3 M H locs hP hS bx3 hf => ?_)
        refine r_if_ne (tgt := 34) S dX10_road_28 (by decide) hf (fun hf => ?_) (fun hf => ?_)
        · refine lv_aload_n hx hb dX10_road_34 rfl (lv_at hl 0 rfl) ?_
          refine gf_X10_7 S hK hP h0 dX10_road_35 hf (fun x4 hx4 hf => ?_)
          refine lv_sipush (v := 360) hx hb dX10_road_38 (by decide) ?_
          refine lv_bipush (v := 6) hx hb dX10_road_41 (by decide) ?_
          refine lv_iload_n hx hb dX10_road_43 rfl (lv_at hl 2 rfl) ?_
          refine lv_imul hx hb dX10_road_44 ?_
          refine lv_iadd hx hb dX10_road_45 ?_
          refine lv_iload_n hx hb dX10_road_46 rfl (lv_at hl 1 rfl) ?_
          refine lv_iadd hx hb dX10_road_47 ?_
          refine lv_iload_n hx hb dX10_road_48 rfl (lv_at hl 3 rfl) ?_
          refine r_iast S hK hG hP hS hx4 dX10_road_49 hf (fun M H locs hP hS hf => ?_)
          refine lv_aload_n hx hb dX10_road_50 rfl (lv_at hl 0 rfl) ?_
          refine lv_sipush (v := 360) hx hb dX10_road_51 (by decide) ?_
          refine lv_bipush (v := 6) hx hb dX10_road_54 (by decide) ?_
          refine lv_iload_n hx hb dX10_road_56 rfl (lv_at hl 1 rfl) ?_
          refine lv_imul hx hb dX10_road_57 ?_
          refine lv_iadd hx hb dX10_road_58 ?_
          refine lv_iload_n hx hb dX10_road_59 rfl (lv_at hl 2 rfl) ?_
          refine lv_iadd hx hb dX10_road_60 ?_
          refine lv_iload_n hx hb dX10_road_61 rfl (lv_at hl 3 rfl) ?_
          refine r_callV (As := [.int ((360 + (6 * p1)) + p2), .int p3]) (rest := []) S hK hE hst hP hS h0 (by decide) rfl (cw_X10_155 ht ⟨Nat.le_of_ble_eq_true rfl, Nat.le_of_ble_eq_true rfl⟩) rfl hl.1 rfl (Nat.le_of_ble_eq_true rfl) dX10_road_62 z2 (fun _ _ h => c_X10_becomes hG  h0 h) hf (fun x5 M H locs hP hS bx5 hf => ?_)
          exact hret _ _ _ _ _ _ dX10_road_65 hP hS rfl hf
        · refine lv_ldc (v := (-1000000001)) hx hb hown (ht _ k_1232) dX10_road_31 ?_
          exact hret _ _ _ _ _ _ dX10_road_33 hP hS rfl hf
theorem cw_X10_323 {R : Room} {s : State} {args : Array Value} (ht : ∀ w ∈ Tw, w.before args s = true) (hR : rm_X10_least.frames + 1 ≤ R.frames ∧ 8 + (2 + 11) + rm_X10_least.locals ≤ R.locals) : CallB R s args RX10 323 yX10_least cX10_least 2 (some .int) (ws_of yX10_least cX10_least 2 (some .int)) rm_X10_least 0 0 2 ∧ (Cond.static yX10_least).before args s = true := cw_S 2 ht k_1521 k_1522 k_73 k_1523 (by decide +kernel) rfl rfl hR
section
variable {p : Program} {l : Launch} {e : Env} {R : Room} {s : State} {m : MethodId} {args : Array Value} {below : List Frame} {meth : Method} {c : Code} {H : Heap} {locs : List Loc} {cells slots : Nat} {Q : State → Prop} {cc : ByteArray} {pc : Nat} {ls : Array Slot} {rest : List Value} {nL : Nat} {D : va_G} {K : Ks} {ad : Nat → Nat} {A : Nat → Prop} {M : Mem} {β : Type} {z : β}
theorem gf_X10_61 (S : CallFix p m c cc nL s args Tw RX10) (hK : va_K D classes (gty K) s) (hP : va_P D classes (gws K G2 ad M) H) {a : Nat} {kk : Nat → Option β} (ha : gcl G2 a = 10) (hdg : decode cc pc = .ok (.getfield 61, 3)) (hf : vv (grf G2 a 34) kk = some z) (w : ∀ b, gcl G2 b = 20 ∧ gsz G2 b = 6 → kk b = some z → W p l e R s m args below meth c H locs cells slots Q (F0 m (pc + 3) ls (.ref (ad b) :: rest))) : W p l e R s m args below meth c H locs cells slots Q (F0 m pc ls (.ref (ad a) :: rest)) := r_getr S hK hP (T := TX10) inX10 rfl (by decide) (by decide) ha (sf_X10_34 ha).1 k_1140 hdg hf (fun b e => w b (by rw [e]; exact (sf_X10_34 ha).2))
end
def f_X10_daysFrom (o : Nat) (p1 : Int32) (p2 : Int32) (M : Mem) : Option (Int32 × Mem) :=
  it1 (fun rc2 (v1 : Int32) M =>
    if v1 < 6 then
      vv (grf G2 o 34) fun x25 =>
      jn (fun (v26 : Int32) (M : Mem) =>
        st M x25 v1 6 v26 fun M =>
        rc2 (v1 + 1) M
      ) fun k27 =>
      if v1 = p1 then
        k27 0 M
      else
        k27 100000 M
    else
      it1 (fun rc4 (v3 : Int32) M =>
        if v3 < 6 then
          it1 (fun rc10 (v9 : Int32) M =>
            if v9 < 6 then
              it1 (fun rc12 (v11 : Int32) M =>
                if v11 < 6 then
                  vv (grf G2 o 0) fun x13 =>
                  ld M x13 ((360 + (6 * v9)) + v11) 3510 fun x14 =>
                  vv (grf G2 o 34) fun x15 =>
                  jn (fun (v16 : Int32) (M : Mem) =>
                    st M x15 v11 6 v16 fun M =>
                    rc12 (v11 + 1) M
                  ) fun k17 =>
                  if 0 < x14 then
                    vv (grf G2 o 34) fun x20 =>
                    ld M x20 v11 6 fun x21 =>
                    vv (grf G2 o 34) fun x22 =>
                    ld M x22 v9 6 fun x23 =>
                    bd (f_X10_least x21 (x23 + x14) M) fun x24 M =>
                    k17 x24 M
                  else
                    vv (grf G2 o 34) fun x18 =>
                    ld M x18 v11 6 fun x19 =>
                    k17 x19 M
                else
                  rc10 (v9 + 1) M
              ) fuel 0 M
            else
              rc4 (v3 + 1) M
          ) fuel 0 M
        else
          vv (grf G2 o 34) fun x5 =>
          ld M x5 p2 6 fun x6 =>
          if x6 < 100000 then
            vv (grf G2 o 34) fun x7 =>
            ld M x7 p2 6 fun x8 =>
            some (x8, M)
          else
            some ((-1), M)
      ) fuel 0 M
  ) fuel 0 M
def rm_X10_daysFrom : Room := { frames := 1, cells := 0, slots := 0, locals := 21 }
set_option maxHeartbeats 4000000 in
set_option maxRecDepth 100000 in
theorem c_X10_daysFrom {l : Launch} {D : va_G} {K : Ks} {ad : Nat → Nat} {A : Nat → Prop} (hG : Gok G2 ad A) {o : Nat} {p1 : Int32} {p2 : Int32} (h0 : gcl G2 o = 10) {M : Mem} {r : Int32} {M' : Mem} (hf : f_X10_daysFrom o p1 p2 M = some (r, M')) : Ct l E2 D K G2 ad A yX10_daysFrom (ws_of yX10_daysFrom cX10_daysFrom 7 (some .int)) rm_X10_daysFrom .int [.ref (ad o), .int p1, .int p2] M r M' := by
  have hst : Est A E2 := est2
  refine Ct.ofW (by decide) (Nat.le_of_ble_eq_true rfl) ?_
  intro p e s m args below meth c Q H locs ls S hK hE hP hS hl hret
  have hx := S.1
  have hb := S.2.1
  have hown := S.2.2.2.1
  have ht := S.2.2.2.2
  have hl : lv_has ls 7 [(0, .ref (ad o)), (1, .int p1), (2, .int p2)] := hl
  unfold f_X10_daysFrom at hf
  refine lv_iconst (v := 0) hx hb dX10_daysFrom_0 (by decide) ?_
  refine lv_istore_n (lv' := [(3, .int 0), (0, .ref (ad o)), (1, .int p1), (2, .int p2)]) hx hb dX10_daysFrom_1 rfl hl (by decide) rfl (fun ls hl => ?_)
  obtain ⟨F2, hF2, hf⟩ := it1_g hf
  have L2 : ∀ (n : Nat) (v1 : Int32) (M : Mem) (H : Heap) (locs : List Loc) (ls : Array Slot), lv_has ls 7 [(0, .ref (ad o)), (1, .int p1), (2, .int p2), (3, .int v1)] → va_P D classes (gws K G2 ad M) H → va_S A s.heap H locs → it1 F2 n v1 M = some (r, M') → W p l e rm_X10_daysFrom s m args below meth c H locs 0 0 Q (F0 m 2 ls []) := by
    intro n
    induction n with
    | zero => intro v1 M H locs ls hl hP hS hf; exact nomatch hf
    | succ n ih2 =>
      intro v1 M H locs ls hl hP hS hf
      obtain ⟨rc2, hrc2, hf⟩ := it1_w hf
      rw [← hrc2] at ih2
      rw [hF2] at hf
      refine lv_iload_n hx hb dX10_daysFrom_2 rfl (lv_at hl 3 rfl) ?_
      refine lv_bipush (v := 6) hx hb dX10_daysFrom_3 (by decide) ?_
      refine r_icmp_ge (tgt := 32) S dX10_daysFrom_5 (by decide) hf (fun hf => ?_) (fun hf => ?_)
      · refine lv_iconst (v := 0) hx hb dX10_daysFrom_32 (by decide) ?_
        refine lv_istore_n (lv' := [(3, .int 0), (0, .ref (ad o)), (1, .int p1), (2, .int p2)]) hx hb dX10_daysFrom_33 rfl hl (by decide) rfl (fun ls hl => ?_)
        obtain ⟨F4, hF4, hf⟩ := it1_g hf
        have L4 : ∀ (n : Nat) (v3 : Int32) (M : Mem) (H : Heap) (locs : List Loc) (ls : Array Slot), lv_has ls 7 [(0, .ref (ad o)), (2, .int p2), (3, .int v3)] → va_P D classes (gws K G2 ad M) H → va_S A s.heap H locs → it1 F4 n v3 M = some (r, M') → W p l e rm_X10_daysFrom s m args below meth c H locs 0 0 Q (F0 m 34 ls []) := by
          intro n
          induction n with
          | zero => intro v3 M H locs ls hl hP hS hf; exact nomatch hf
          | succ n ih4 =>
            intro v3 M H locs ls hl hP hS hf
            obtain ⟨rc4, hrc4, hf⟩ := it1_w hf
            rw [← hrc4] at ih4
            rw [hF4] at hf
            refine lv_iload_n hx hb dX10_daysFrom_34 rfl (lv_at hl 2 rfl) ?_
            refine lv_bipush (v := 6) hx hb dX10_daysFrom_35 (by decide) ?_
            refine r_icmp_ge (tgt := 139) S dX10_daysFrom_37 (by decide) hf (fun hf => ?_) (fun hf => ?_)
            · refine lv_aload_n hx hb dX10_daysFrom_139 rfl (lv_at hl 0 rfl) ?_
              refine gf_X10_61 S hK hP h0 dX10_daysFrom_140 hf (fun x5 hx5 hf => ?_)
              refine lv_iload_n hx hb dX10_daysFrom_143 rfl (lv_at hl 1 rfl) ?_
              refine r_iald S hK hP hx5 dX10_daysFrom_144 hf (fun x6 hf => ?_)
              refine lv_ldcw (v := 100000) hx hb hown (ht _ k_1520) dX10_daysFrom_145 ?_
              refine r_icmp_ge (tgt := 160) S dX10_daysFrom_148 (by decide) hf (fun hf => ?_) (fun hf => ?_)
              · refine lv_iconst (v := (-1)) hx hb dX10_daysFrom_160 (by decide) ?_
                exact hret _ _ _ _ _ _ dX10_daysFrom_161 hP hS rfl hf
              · refine lv_aload_n hx hb dX10_daysFrom_151 rfl (lv_at hl 0 rfl) ?_
                refine gf_X10_61 S hK hP h0 dX10_daysFrom_152 hf (fun x7 hx7 hf => ?_)
                refine lv_iload_n hx hb dX10_daysFrom_155 rfl (lv_at hl 1 rfl) ?_
                refine r_iald S hK hP hx7 dX10_daysFrom_156 hf (fun x8 hf => ?_)
                refine lv_goto (tgt := 161) hx hb dX10_daysFrom_157 (by decide) ?_
                exact hret _ _ _ _ _ _ dX10_daysFrom_161 hP hS rfl hf
            · refine lv_iconst (v := 0) hx hb dX10_daysFrom_40 (by decide) ?_
              refine lv_istore (lv' := [(4, .int 0), (0, .ref (ad o)), (2, .int p2), (3, .int v3)]) hx hb dX10_daysFrom_41 hl (by decide) rfl (fun ls hl => ?_)
              obtain ⟨F10, hF10, hf⟩ := it1_g hf
              have L10 : ∀ (n : Nat) (v9 : Int32) (M : Mem) (H : Heap) (locs : List Loc) (ls : Array Slot), lv_has ls 7 [(0, .ref (ad o)), (2, .int p2), (3, .int v3), (4, .int v9)] → va_P D classes (gws K G2 ad M) H → va_S A s.heap H locs → it1 F10 n v9 M = some (r, M') → W p l e rm_X10_daysFrom s m args below meth c H locs 0 0 Q (F0 m 43 ls []) := by
                intro n
                induction n with
                | zero => intro v9 M H locs ls hl hP hS hf; exact nomatch hf
                | succ n ih10 =>
                  intro v9 M H locs ls hl hP hS hf
                  obtain ⟨rc10, hrc10, hf⟩ := it1_w hf
                  rw [← hrc10] at ih10
                  rw [hF10] at hf
                  refine lv_iload hx hb dX10_daysFrom_43 (lv_at hl 3 rfl) ?_
                  refine lv_bipush (v := 6) hx hb dX10_daysFrom_45 (by decide) ?_
                  refine r_icmp_ge (tgt := 133) S dX10_daysFrom_47 (by decide) hf (fun hf => ?_) (fun hf => ?_)
                  · refine lv_iinc (v := (v3 + 1)) (lv' := [(3, .int (v3 + 1)), (0, .ref (ad o)), (2, .int p2), (4, .int v9)]) hx hb dX10_daysFrom_133 hl (k := 2) rfl rfl (by decide) rfl (fun ls hl => ?_)
                    refine lv_goto (tgt := 34) hx hb dX10_daysFrom_136 (by decide) ?_
                    exact ih4 (v3 + 1) M H locs ls (lv_sub hl [1, 2, 0] rfl) hP hS hf
                  · refine lv_iconst (v := 0) hx hb dX10_daysFrom_50 (by decide) ?_
                    refine lv_istore (lv' := [(5, .int 0), (0, .ref (ad o)), (2, .int p2), (3, .int v3), (4, .int v9)]) hx hb dX10_daysFrom_51 hl (by decide) rfl (fun ls hl => ?_)
                    obtain ⟨F12, hF12, hf⟩ := it1_g hf
                    have L12 : ∀ (n : Nat) (v11 : Int32) (M : Mem) (H : Heap) (locs : List Loc) (ls : Array Slot), lv_has ls 7 [(0, .ref (ad o)), (2, .int p2), (3, .int v3), (4, .int v9), (5, .int v11)] → va_P D classes (gws K G2 ad M) H → va_S A s.heap H locs → it1 F12 n v11 M = some (r, M') → W p l e rm_X10_daysFrom s m args below meth c H locs 0 0 Q (F0 m 53 ls []) := by
                      intro n
                      induction n with
                      | zero => intro v11 M H locs ls hl hP hS hf; exact nomatch hf
                      | succ n ih12 =>
                        intro v11 M H locs ls hl hP hS hf
                        obtain ⟨rc12, hrc12, hf⟩ := it1_w hf
                        rw [← hrc12] at ih12
                        rw [hF12] at hf
                        refine lv_iload hx hb dX10_daysFrom_53 (lv_at hl 4 rfl) ?_
                        refine lv_bipush (v := 6) hx hb dX10_daysFrom_55 (by decide) ?_
                        refine r_icmp_ge (tgt := 127) S dX10_daysFrom_57 (by decide) hf (fun hf => ?_) (fun hf => ?_)
                        · refine lv_iinc (v := (v9 + 1)) (lv' := [(4, .int (v9 + 1)), (0, .ref (ad o)), (2, .int p2), (3, .int v3), (5, .int v11)]) hx hb dX10_daysFrom_127 hl (k := 3) rfl rfl (by decide) rfl (fun ls hl => ?_)
                          refine lv_goto (tgt := 43) hx hb dX10_daysFrom_130 (by decide) ?_
                          exact ih10 (v9 + 1) M H locs ls (lv_sub hl [1, 2, 3, 0] rfl) hP hS hf
                        · refine lv_aload_n hx hb dX10_daysFrom_60 rfl (lv_at hl 0 rfl) ?_
                          refine gf_X10_7 S hK hP h0 dX10_daysFrom_61 hf (fun x13 hx13 hf => ?_)
                          refine lv_sipush (v := 360) hx hb dX10_daysFrom_64 (by decide) ?_
                          refine lv_bipush (v := 6) hx hb dX10_daysFrom_67 (by decide) ?_
                          refine lv_iload hx hb dX10_daysFrom_69 (lv_at hl 3 rfl) ?_
                          refine lv_imul hx hb dX10_daysFrom_71 ?_
                          refine lv_iadd hx hb dX10_daysFrom_72 ?_
                          refine lv_iload hx hb dX10_daysFrom_73 (lv_at hl 4 rfl) ?_
                          refine lv_iadd hx hb dX10_daysFrom_75 ?_
                          refine r_iald S hK hP hx13 dX10_daysFrom_76 hf (fun x14 hf => ?_)
                          refine lv_istore (lv' := [(6, .int x14), (0, .ref (ad o)), (2, .int p2), (3, .int v3), (4, .int v9), (5, .int v11)]) hx hb dX10_daysFrom_77 hl (by decide) rfl (fun ls hl => ?_)
                          refine lv_aload_n hx hb dX10_daysFrom_79 rfl (lv_at hl 1 rfl) ?_
                          refine gf_X10_61 S hK hP h0 dX10_daysFrom_80 hf (fun x15 hx15 hf => ?_)
                          refine lv_iload hx hb dX10_daysFrom_83 (lv_at hl 5 rfl) ?_
                          refine lv_iload hx hb dX10_daysFrom_85 (lv_at hl 0 rfl) ?_
                          obtain ⟨k17, hk17, hf⟩ := jn_w hf
                          have J17 : ∀ (v16 : Int32) (M : Mem) (H : Heap) (locs : List Loc) (ls : Array Slot), lv_has ls 7 [(0, .ref (ad o)), (2, .int p2), (3, .int v3), (4, .int v9), (5, .int v11)] → va_P D classes (gws K G2 ad M) H → va_S A s.heap H locs → k17 v16 M = some (r, M') → W p l e rm_X10_daysFrom s m args below meth c H locs 0 0 Q (F0 m 120 ls [.int v16, .int v11, .ref (ad x15)]) := by
                            intro v16 M H locs ls hl hP hS hf
                            rw [hk17] at hf
                            refine r_iast S hK hG hP hS hx15 dX10_daysFrom_120 hf (fun M H locs hP hS hf => ?_)
                            refine lv_iinc (v := (v11 + 1)) (lv' := [(5, .int (v11 + 1)), (0, .ref (ad o)), (2, .int p2), (3, .int v3), (4, .int v9)]) hx hb dX10_daysFrom_121 hl (k := 4) rfl rfl (by decide) rfl (fun ls hl => ?_)
                            refine lv_goto (tgt := 53) hx hb dX10_daysFrom_124 (by decide) ?_
                            exact ih12 (v11 + 1) M H locs ls (lv_sub hl [1, 2, 3, 4, 0] rfl) hP hS hf
                          refine r_if_le (tgt := 113) S dX10_daysFrom_87 (by decide) hf (fun hf => ?_) (fun hf => ?_)
                          · refine lv_aload_n hx hb dX10_daysFrom_113 rfl (lv_at hl 1 rfl) ?_
                            refine gf_X10_61 S hK hP h0 dX10_daysFrom_114 hf (fun x18 hx18 hf => ?_)
                            refine lv_iload hx hb dX10_daysFrom_117 (lv_at hl 5 rfl) ?_
                            refine r_iald S hK hP hx18 dX10_daysFrom_119 hf (fun x19 hf => ?_)
                            exact J17 x19 M H locs ls (lv_sub hl [1, 2, 3, 4, 5] rfl) hP hS hf
                          · refine lv_aload_n hx hb dX10_daysFrom_90 rfl (lv_at hl 1 rfl) ?_
                            refine gf_X10_61 S hK hP h0 dX10_daysFrom_91 hf (fun x20 hx20 hf => ?_)
                            refine lv_iload hx hb dX10_daysFrom_94 (lv_at hl 5 rfl) ?_
                            refine r_iald S hK hP hx20 dX10_daysFrom_96 hf (fun x21 hf => ?_)
                            refine lv_aload_n hx hb dX10_daysFrom_97 rfl (lv_at hl 1 rfl) ?_
                            refine gf_X10_61 S hK hP h0 dX10_daysFrom_98 hf (fun x22 hx22 hf => ?_)
                            refine lv_iload hx hb dX10_daysFrom_101 (lv_at hl 4 rfl) ?_
                            refine r_iald S hK hP hx22 dX10_daysFrom_103 hf (fun x23 hf => ?_)
                            refine lv_iload hx hb dX10_daysFrom_104 (lv_at hl 0 rfl) ?_
                            refine lv_iadd hx hb dX10_daysFrom_106 ?_
                            refine r_callS (As := [.int x21, .int (x23 + x14)]) (rest := [.int v11, .ref (ad x15)]) S hK hE hst hP hS (cw_X10_323 ht ⟨Nat.le_of_ble_eq_true rfl, Nat.le_of_ble_eq_true rfl⟩) rfl hl.1 rfl (Nat.le_of_ble_eq_true rfl) dX10_daysFrom_107 z2 (fun _ _ h => c_X10_least hG  h) hf (fun x24 M H locs hP hS bx24 hf => ?_)
                            refine lv_goto (tgt := 120) hx hb dX10_daysFrom_110 (by decide) ?_
                            exact J17 x24 M H locs ls (lv_sub hl [1, 2, 3, 4, 5] rfl) hP hS hf
                    exact L12 _ 0 M H locs ls (lv_sub hl [1, 2, 3, 4, 0] rfl) hP hS hf
              exact L10 _ 0 M H locs ls (lv_sub hl [1, 2, 3, 0] rfl) hP hS hf
        exact L4 _ 0 M H locs ls (lv_sub hl [1, 3, 0] rfl) hP hS hf
      · refine lv_aload_n hx hb dX10_daysFrom_8 rfl (lv_at hl 0 rfl) ?_
        refine gf_X10_61 S hK hP h0 dX10_daysFrom_9 hf (fun x25 hx25 hf => ?_)
        refine lv_iload_n hx hb dX10_daysFrom_12 rfl (lv_at hl 3 rfl) ?_
        refine lv_iload_n hx hb dX10_daysFrom_13 rfl (lv_at hl 3 rfl) ?_
        refine lv_iload_n hx hb dX10_daysFrom_14 rfl (lv_at hl 1 rfl) ?_
        obtain ⟨k27, hk27, hf⟩ := jn_w hf
        have J27 : ∀ (v26 : Int32) (M : Mem) (H : Heap) (locs : List Loc) (ls : Array Slot), lv_has ls 7 [(0, .ref (ad o)), (1, .int p1), (2, .int p2), (3, .int v1)] → va_P D classes (gws K G2 ad M) H → va_S A s.heap H locs → k27 v26 M = some (r, M') → W p l e rm_X10_daysFrom s m args below meth c H locs 0 0 Q (F0 m 25 ls [.int v26, .int v1, .ref (ad x25)]) := by
          intro v26 M H locs ls hl hP hS hf
          rw [hk27] at hf
          refine r_iast S hK hG hP hS hx25 dX10_daysFrom_25 hf (fun M H locs hP hS hf => ?_)
          refine lv_iinc (v := (v1 + 1)) (lv' := [(3, .int (v1 + 1)), (0, .ref (ad o)), (1, .int p1), (2, .int p2)]) hx hb dX10_daysFrom_26 hl (k := 3) rfl rfl (by decide) rfl (fun ls hl => ?_)
          refine lv_goto (tgt := 2) hx hb dX10_daysFrom_29 (by decide) ?_
          exact ih2 (v1 + 1) M H locs ls (lv_sub hl [1, 2, 3, 0] rfl) hP hS hf
        refine r_icmp_ne (tgt := 22) S dX10_daysFrom_15 (by decide) hf (fun hf => ?_) (fun hf => ?_)
        · refine lv_ldcw (v := 100000) hx hb hown (ht _ k_1520) dX10_daysFrom_22 ?_
          exact J27 100000 M H locs ls (lv_sub hl [0, 1, 2, 3] rfl) hP hS hf
        · refine lv_iconst (v := 0) hx hb dX10_daysFrom_18 (by decide) ?_
          refine lv_goto (tgt := 25) hx hb dX10_daysFrom_19 (by decide) ?_
          exact J27 0 M H locs ls (lv_sub hl [0, 1, 2, 3] rfl) hP hS hf
  exact L2 _ 0 M H locs ls (lv_sub hl [1, 2, 3, 0] rfl) hP hS hf
theorem cw_X10_326 {R : Room} {s : State} {args : Array Value} (ht : ∀ w ∈ Tw, w.before args s = true) (hR : rm_X10_daysFrom.frames + 1 ≤ R.frames ∧ 8 + (7 + 11) + rm_X10_daysFrom.locals ≤ R.locals) : CallW R s args RX10 RX10 326 yX10_daysFrom cX10_daysFrom 7 (some .int) (ws_of yX10_daysFrom cX10_daysFrom 7 (some .int)) rm_X10_daysFrom 0 0 2 := cw_V 2 ht k_1516 k_1518 k_55 k_73 k_1519 (by decide +kernel) rfl rfl hR
def f_X10_far (o : Nat) (p1 : Int32) (p2 : Int32) (M : Mem) : Option (Int32 × Mem) :=
  bd (f_X10_isPlace p1 M) fun x1 M =>
  if x1 = 0 then
    some ((-1000000001), M)
  else
    bd (f_X10_isPlace p2 M) fun x2 M =>
    if x2 = 0 then
      some ((-1000000001), M)
    else
      bd (f_X10_daysFrom o p1 p2 M) fun x3 M =>
      bd (f_X10_orNone x3 M) fun x4 M =>
      some (x4, M)
def rm_X10_far : Room := { frames := 2, cells := 0, slots := 0, locals := 47 }
set_option maxHeartbeats 4000000 in
set_option maxRecDepth 100000 in
theorem c_X10_far {l : Launch} {D : va_G} {K : Ks} {ad : Nat → Nat} {A : Nat → Prop} (hG : Gok G2 ad A) {o : Nat} {p1 : Int32} {p2 : Int32} (h0 : gcl G2 o = 10) {M : Mem} {r : Int32} {M' : Mem} (hf : f_X10_far o p1 p2 M = some (r, M')) : Ct l E2 D K G2 ad A yX10_far (ws_of yX10_far cX10_far 3 (some .int)) rm_X10_far .int [.ref (ad o), .int p1, .int p2] M r M' := by
  have hst : Est A E2 := est2
  refine Ct.ofW (by decide) (Nat.le_of_ble_eq_true rfl) ?_
  intro p e s m args below meth c Q H locs ls S hK hE hP hS hl hret
  have hx := S.1
  have hb := S.2.1
  have hown := S.2.2.2.1
  have ht := S.2.2.2.2
  have hl : lv_has ls 3 [(0, .ref (ad o)), (1, .int p1), (2, .int p2)] := hl
  unfold f_X10_far at hf
  refine lv_iload_n hx hb dX10_far_0 rfl (lv_at hl 1 rfl) ?_
  refine r_callS (As := [.int p1]) (rest := []) S hK hE hst hP hS (cw_X10_317 ht ⟨Nat.le_of_ble_eq_true rfl, Nat.le_of_ble_eq_true rfl⟩) rfl hl.1 rfl (Nat.le_of_ble_eq_true rfl) dX10_far_1 z2 (fun _ _ h => c_X10_isPlace hG  h) hf (fun x1 M H locs hP hS bx1 hf => ?_)
  refine r_if_eq (tgt := 26) S dX10_far_4 (by decide) hf (fun hf => ?_) (fun hf => ?_)
  · refine lv_ldc (v := (-1000000001)) hx hb hown (ht _ k_1232) dX10_far_26 ?_
    exact hret _ _ _ _ _ _ dX10_far_28 hP hS rfl hf
  · refine lv_iload_n hx hb dX10_far_7 rfl (lv_at hl 2 rfl) ?_
    refine r_callS (As := [.int p2]) (rest := []) S hK hE hst hP hS (cw_X10_317 ht ⟨Nat.le_of_ble_eq_true rfl, Nat.le_of_ble_eq_true rfl⟩) rfl hl.1 rfl (Nat.le_of_ble_eq_true rfl) dX10_far_8 z2 (fun _ _ h => c_X10_isPlace hG  h) hf (fun x2 M H locs hP hS bx2 hf => ?_)
    refine r_if_eq (tgt := 26) S dX10_far_11 (by decide) hf (fun hf => ?_) (fun hf => ?_)
    · refine lv_ldc (v := (-1000000001)) hx hb hown (ht _ k_1232) dX10_far_26 ?_
      exact hret _ _ _ _ _ _ dX10_far_28 hP hS rfl hf
    · refine lv_aload_n hx hb dX10_far_14 rfl (lv_at hl 0 rfl) ?_
      refine lv_iload_n hx hb dX10_far_15 rfl (lv_at hl 1 rfl) ?_
      refine lv_iload_n hx hb dX10_far_16 rfl (lv_at hl 2 rfl) ?_
      refine r_callV (As := [.int p1, .int p2]) (rest := []) S hK hE hst hP hS h0 (by decide) rfl (cw_X10_326 ht ⟨Nat.le_of_ble_eq_true rfl, Nat.le_of_ble_eq_true rfl⟩) rfl hl.1 rfl (Nat.le_of_ble_eq_true rfl) dX10_far_17 z2 (fun _ _ h => c_X10_daysFrom hG  h0 h) hf (fun x3 M H locs hP hS bx3 hf => ?_)
      refine r_callS (As := [.int x3]) (rest := []) S hK hE hst hP hS (cw_X10_141 ht ⟨Nat.le_of_ble_eq_true rfl, Nat.le_of_ble_eq_true rfl⟩) rfl hl.1 rfl (Nat.le_of_ble_eq_true rfl) dX10_far_20 z2 (fun _ _ h => c_X10_orNone hG  h) hf (fun x4 M H locs hP hS bx4 hf => ?_)
      refine lv_goto (tgt := 28) hx hb dX10_far_23 (by decide) ?_
      exact hret _ _ _ _ _ _ dX10_far_28 hP hS rfl hf
def f_X10_hasDay (o : Nat) (p1 : Int32) (M : Mem) : Option (Int32 × Mem) :=
  it2 (fun rc3 (v1 : Int32) (v2 : Int32) M =>
    vv (grf G2 o 0) fun x4 =>
    ld M x4 4 3510 fun x5 =>
    if v2 < x5 then
      if v1 = 0 then
        vv (grf G2 o 0) fun x7 =>
        ld M x7 (400 + (2 * v2)) 3510 fun x8 =>
        if x8 = p1 then
          rc3 1 (v2 + 1) M
        else
          rc3 0 (v2 + 1) M
      else
        rc3 1 (v2 + 1) M
    else
      gb v1 (some (v1, M))
  ) fuel 0 0 M
def rm_X10_hasDay : Room := { frames := 0, cells := 0, slots := 0, locals := 0 }
set_option maxHeartbeats 4000000 in
set_option maxRecDepth 100000 in
theorem c_X10_hasDay {l : Launch} {D : va_G} {K : Ks} {ad : Nat → Nat} {A : Nat → Prop} (hG : Gok G2 ad A) {o : Nat} {p1 : Int32} (h0 : gcl G2 o = 10) {M : Mem} {r : Int32} {M' : Mem} (hf : f_X10_hasDay o p1 M = some (r, M')) : Ct l E2 D K G2 ad A yX10_hasDay (ws_of yX10_hasDay cX10_hasDay 4 (some .boolean)) rm_X10_hasDay .boolean [.ref (ad o), .int p1] M r M' := by
  have hst : Est A E2 := est2
  refine Ct.ofW (by decide) (Nat.le_of_ble_eq_true rfl) ?_
  intro p e s m args below meth c Q H locs ls S hK hE hP hS hl hret
  have hx := S.1
  have hb := S.2.1
  have hown := S.2.2.2.1
  have ht := S.2.2.2.2
  have hl : lv_has ls 4 [(0, .ref (ad o)), (1, .int p1)] := hl
  unfold f_X10_hasDay at hf
  refine lv_iconst (v := 0) hx hb dX10_hasDay_0 (by decide) ?_
  refine lv_istore_n (lv' := [(2, .int 0), (0, .ref (ad o)), (1, .int p1)]) hx hb dX10_hasDay_1 rfl hl (by decide) rfl (fun ls hl => ?_)
  refine lv_iconst (v := 0) hx hb dX10_hasDay_2 (by decide) ?_
  refine lv_istore_n (lv' := [(3, .int 0), (2, .int 0), (0, .ref (ad o)), (1, .int p1)]) hx hb dX10_hasDay_3 rfl hl (by decide) rfl (fun ls hl => ?_)
  obtain ⟨F3, hF3, hf⟩ := it2_g hf
  have L3 : ∀ (n : Nat) (v1 : Int32) (v2 : Int32) (M : Mem) (H : Heap) (locs : List Loc) (ls : Array Slot), lv_has ls 4 [(0, .ref (ad o)), (1, .int p1), (2, .int v1), (3, .int v2)] → va_P D classes (gws K G2 ad M) H → va_S A s.heap H locs → it2 F3 n v1 v2 M = some (r, M') → W p l e rm_X10_hasDay s m args below meth c H locs 0 0 Q (F0 m 4 ls []) := by
    intro n
    induction n with
    | zero => intro v1 v2 M H locs ls hl hP hS hf; exact nomatch hf
    | succ n ih3 =>
      intro v1 v2 M H locs ls hl hP hS hf
      obtain ⟨rc3, hrc3, hf⟩ := it2_w hf
      rw [← hrc3] at ih3
      rw [hF3] at hf
      refine lv_iload_n hx hb dX10_hasDay_4 rfl (lv_at hl 3 rfl) ?_
      refine lv_aload_n hx hb dX10_hasDay_5 rfl (lv_at hl 0 rfl) ?_
      refine gf_X10_7 S hK hP h0 dX10_hasDay_6 hf (fun x4 hx4 hf => ?_)
      refine lv_iconst (v := 4) hx hb dX10_hasDay_9 (by decide) ?_
      refine r_iald S hK hP hx4 dX10_hasDay_10 hf (fun x5 hf => ?_)
      refine r_icmp_ge (tgt := 46) S dX10_hasDay_11 (by decide) hf (fun hf => ?_) (fun hf => ?_)
      · refine lv_iload_n hx hb dX10_hasDay_46 rfl (lv_at hl 2 rfl) ?_
        obtain ⟨b6, hf⟩ := gb_s hf
        exact hret _ _ _ _ _ _ dX10_hasDay_47 hP hS (nb b6) hf
      · refine lv_iload_n hx hb dX10_hasDay_14 rfl (lv_at hl 2 rfl) ?_
        refine r_if_ne (tgt := 34) S dX10_hasDay_15 (by decide) hf (fun hf => ?_) (fun hf => ?_)
        · refine lv_iconst (v := 1) hx hb dX10_hasDay_34 (by decide) ?_
          refine lv_goto (tgt := 39) hx hb dX10_hasDay_35 (by decide) ?_
          refine lv_istore_n (lv' := [(2, .int 1), (0, .ref (ad o)), (1, .int p1), (3, .int v2)]) hx hb dX10_hasDay_39 rfl hl (by decide) rfl (fun ls hl => ?_)
          refine lv_iinc (v := (v2 + 1)) (lv' := [(3, .int (v2 + 1)), (2, .int 1), (0, .ref (ad o)), (1, .int p1)]) hx hb dX10_hasDay_40 hl (k := 3) rfl rfl (by decide) rfl (fun ls hl => ?_)
          refine lv_goto (tgt := 4) hx hb dX10_hasDay_43 (by decide) ?_
          exact ih3 1 (v2 + 1) M H locs ls (lv_sub hl [2, 3, 1, 0] rfl) hP hS hf
        · refine lv_aload_n hx hb dX10_hasDay_18 rfl (lv_at hl 0 rfl) ?_
          refine gf_X10_7 S hK hP h0 dX10_hasDay_19 hf (fun x7 hx7 hf => ?_)
          refine lv_sipush (v := 400) hx hb dX10_hasDay_22 (by decide) ?_
          refine lv_iconst (v := 2) hx hb dX10_hasDay_25 (by decide) ?_
          refine lv_iload_n hx hb dX10_hasDay_26 rfl (lv_at hl 3 rfl) ?_
          refine lv_imul hx hb dX10_hasDay_27 ?_
          refine lv_iadd hx hb dX10_hasDay_28 ?_
          refine r_iald S hK hP hx7 dX10_hasDay_29 hf (fun x8 hf => ?_)
          refine lv_iload_n hx hb dX10_hasDay_30 rfl (lv_at hl 1 rfl) ?_
          refine r_icmp_ne (tgt := 38) S dX10_hasDay_31 (by decide) hf (fun hf => ?_) (fun hf => ?_)
          · refine lv_iconst (v := 0) hx hb dX10_hasDay_38 (by decide) ?_
            refine lv_istore_n (lv' := [(2, .int 0), (0, .ref (ad o)), (1, .int p1), (3, .int v2)]) hx hb dX10_hasDay_39 rfl hl (by decide) rfl (fun ls hl => ?_)
            refine lv_iinc (v := (v2 + 1)) (lv' := [(3, .int (v2 + 1)), (2, .int 0), (0, .ref (ad o)), (1, .int p1)]) hx hb dX10_hasDay_40 hl (k := 3) rfl rfl (by decide) rfl (fun ls hl => ?_)
            refine lv_goto (tgt := 4) hx hb dX10_hasDay_43 (by decide) ?_
            exact ih3 0 (v2 + 1) M H locs ls (lv_sub hl [2, 3, 1, 0] rfl) hP hS hf
          · refine lv_iconst (v := 1) hx hb dX10_hasDay_34 (by decide) ?_
            refine lv_goto (tgt := 39) hx hb dX10_hasDay_35 (by decide) ?_
            refine lv_istore_n (lv' := [(2, .int 1), (0, .ref (ad o)), (1, .int p1), (3, .int v2)]) hx hb dX10_hasDay_39 rfl hl (by decide) rfl (fun ls hl => ?_)
            refine lv_iinc (v := (v2 + 1)) (lv' := [(3, .int (v2 + 1)), (2, .int 1), (0, .ref (ad o)), (1, .int p1)]) hx hb dX10_hasDay_40 hl (k := 3) rfl rfl (by decide) rfl (fun ls hl => ?_)
            refine lv_goto (tgt := 4) hx hb dX10_hasDay_43 (by decide) ?_
            exact ih3 1 (v2 + 1) M H locs ls (lv_sub hl [2, 3, 1, 0] rfl) hP hS hf
  exact L3 _ 0 0 M H locs ls (lv_sub hl [2, 3, 1, 0] rfl) hP hS hf
theorem cw_X10_329 {R : Room} {s : State} {args : Array Value} (ht : ∀ w ∈ Tw, w.before args s = true) (hR : rm_X10_hasDay.frames + 1 ≤ R.frames ∧ 8 + (4 + 11) + rm_X10_hasDay.locals ≤ R.locals) : CallW R s args RX10 RX10 329 yX10_hasDay cX10_hasDay 4 (some .boolean) (ws_of yX10_hasDay cX10_hasDay 4 (some .boolean)) rm_X10_hasDay 0 0 1 := cw_V 1 ht k_1528 k_1530 k_56 k_73 k_1531 (by decide +kernel) rfl rfl hR
def f_X10_diary (o : Nat) (p1 : Int32) (p2 : Int32) (M : Mem) : Option (Int32 × Mem) :=
  bd (f_X10_isIn (Int32.toInt64 p1) 0 9999 M) fun x1 M =>
  if x1 = 0 then
    some ((-1000000001), M)
  else
    bd (f_X10_isPlace p2 M) fun x2 M =>
    if x2 = 0 then
      some ((-1000000001), M)
    else
      bd (f_X10_hasDay o p1 M) fun x3 M =>
      if x3 = 0 then
        vv (grf G2 o 0) fun x4 =>
        ld M x4 4 3510 fun x5 =>
        if x5 = 20 then
          some ((-1000000003), M)
        else
          vv (grf G2 o 0) fun x6 =>
          vv (grf G2 o 0) fun x7 =>
          ld M x7 4 3510 fun x8 =>
          st M x6 (400 + (2 * x8)) 3510 p1 fun M =>
          vv (grf G2 o 0) fun x9 =>
          vv (grf G2 o 0) fun x10 =>
          ld M x10 4 3510 fun x11 =>
          st M x9 ((400 + (2 * x11)) + 1) 3510 p2 fun M =>
          vv (grf G2 o 0) fun x12 =>
          ld M x12 4 3510 fun x13 =>
          st M x12 4 3510 (x13 + 1) fun M =>
          vv (grf G2 o 0) fun x14 =>
          ld M x14 4 3510 fun x15 =>
          some (x15, M)
      else
        some ((-1000000002), M)
def rm_X10_diary : Room := { frames := 2, cells := 0, slots := 0, locals := 45 }
set_option maxHeartbeats 4000000 in
set_option maxRecDepth 100000 in
theorem c_X10_diary {l : Launch} {D : va_G} {K : Ks} {ad : Nat → Nat} {A : Nat → Prop} (hG : Gok G2 ad A) {o : Nat} {p1 : Int32} {p2 : Int32} (h0 : gcl G2 o = 10) {M : Mem} {r : Int32} {M' : Mem} (hf : f_X10_diary o p1 p2 M = some (r, M')) : Ct l E2 D K G2 ad A yX10_diary (ws_of yX10_diary cX10_diary 3 (some .int)) rm_X10_diary .int [.ref (ad o), .int p1, .int p2] M r M' := by
  have hst : Est A E2 := est2
  refine Ct.ofW (by decide) (Nat.le_of_ble_eq_true rfl) ?_
  intro p e s m args below meth c Q H locs ls S hK hE hP hS hl hret
  have hx := S.1
  have hb := S.2.1
  have hown := S.2.2.2.1
  have ht := S.2.2.2.2
  have hl : lv_has ls 3 [(0, .ref (ad o)), (1, .int p1), (2, .int p2)] := hl
  unfold f_X10_diary at hf
  refine lv_iload_n hx hb dX10_diary_0 rfl (lv_at hl 1 rfl) ?_
  refine lv_i2l (v := (Int32.toInt64 p1)) hx hb dX10_diary_1 rfl ?_
  refine lv_lconst (v := 0) hx hb dX10_diary_2 (by decide) ?_
  refine lv_ldc2 (v := 9999) hx hb hown (ht _ k_1244) dX10_diary_3 ?_
  refine r_callS (As := [.long (Int32.toInt64 p1), .long 0, .long 9999]) (rest := []) S hK hE hst hP hS (cw_X10_74 ht ⟨Nat.le_of_ble_eq_true rfl, Nat.le_of_ble_eq_true rfl⟩) rfl hl.1 rfl (Nat.le_of_ble_eq_true rfl) dX10_diary_6 z2 (fun _ _ h => c_X10_isIn hG  h) hf (fun x1 M H locs hP hS bx1 hf => ?_)
  refine r_if_eq (tgt := 19) S dX10_diary_9 (by decide) hf (fun hf => ?_) (fun hf => ?_)
  · refine lv_ldc (v := (-1000000001)) hx hb hown (ht _ k_1232) dX10_diary_19 ?_
    exact hret _ _ _ _ _ _ dX10_diary_21 hP hS rfl hf
  · refine lv_iload_n hx hb dX10_diary_12 rfl (lv_at hl 2 rfl) ?_
    refine r_callS (As := [.int p2]) (rest := []) S hK hE hst hP hS (cw_X10_317 ht ⟨Nat.le_of_ble_eq_true rfl, Nat.le_of_ble_eq_true rfl⟩) rfl hl.1 rfl (Nat.le_of_ble_eq_true rfl) dX10_diary_13 z2 (fun _ _ h => c_X10_isPlace hG  h) hf (fun x2 M H locs hP hS bx2 hf => ?_)
    refine r_if_ne (tgt := 22) S dX10_diary_16 (by decide) hf (fun hf => ?_) (fun hf => ?_)
    · refine lv_aload_n hx hb dX10_diary_22 rfl (lv_at hl 0 rfl) ?_
      refine lv_iload_n hx hb dX10_diary_23 rfl (lv_at hl 1 rfl) ?_
      refine r_callV (As := [.int p1]) (rest := []) S hK hE hst hP hS h0 (by decide) rfl (cw_X10_329 ht ⟨Nat.le_of_ble_eq_true rfl, Nat.le_of_ble_eq_true rfl⟩) rfl hl.1 rfl (Nat.le_of_ble_eq_true rfl) dX10_diary_24 z2 (fun _ _ h => c_X10_hasDay hG  h0 h) hf (fun x3 M H locs hP hS bx3 hf => ?_)
      refine r_if_eq (tgt := 33) S dX10_diary_27 (by decide) hf (fun hf => ?_) (fun hf => ?_)
      · refine lv_aload_n hx hb dX10_diary_33 rfl (lv_at hl 0 rfl) ?_
        refine gf_X10_7 S hK hP h0 dX10_diary_34 hf (fun x4 hx4 hf => ?_)
        refine lv_iconst (v := 4) hx hb dX10_diary_37 (by decide) ?_
        refine r_iald S hK hP hx4 dX10_diary_38 hf (fun x5 hf => ?_)
        refine lv_bipush (v := 20) hx hb dX10_diary_39 (by decide) ?_
        refine r_icmp_ne (tgt := 47) S dX10_diary_41 (by decide) hf (fun hf => ?_) (fun hf => ?_)
        · refine lv_aload_n hx hb dX10_diary_47 rfl (lv_at hl 0 rfl) ?_
          refine gf_X10_7 S hK hP h0 dX10_diary_48 hf (fun x6 hx6 hf => ?_)
          refine lv_sipush (v := 400) hx hb dX10_diary_51 (by decide) ?_
          refine lv_iconst (v := 2) hx hb dX10_diary_54 (by decide) ?_
          refine lv_aload_n hx hb dX10_diary_55 rfl (lv_at hl 0 rfl) ?_
          refine gf_X10_7 S hK hP h0 dX10_diary_56 hf (fun x7 hx7 hf => ?_)
          refine lv_iconst (v := 4) hx hb dX10_diary_59 (by decide) ?_
          refine r_iald S hK hP hx7 dX10_diary_60 hf (fun x8 hf => ?_)
          refine lv_imul hx hb dX10_diary_61 ?_
          refine lv_iadd hx hb dX10_diary_62 ?_
          refine lv_iload_n hx hb dX10_diary_63 rfl (lv_at hl 1 rfl) ?_
          refine r_iast S hK hG hP hS hx6 dX10_diary_64 hf (fun M H locs hP hS hf => ?_)
          refine lv_aload_n hx hb dX10_diary_65 rfl (lv_at hl 0 rfl) ?_
          refine gf_X10_7 S hK hP h0 dX10_diary_66 hf (fun x9 hx9 hf => ?_)
          refine lv_sipush (v := 400) hx hb dX10_diary_69 (by decide) ?_
          refine lv_iconst (v := 2) hx hb dX10_diary_72 (by decide) ?_
          refine lv_aload_n hx hb dX10_diary_73 rfl (lv_at hl 0 rfl) ?_
          refine gf_X10_7 S hK hP h0 dX10_diary_74 hf (fun x10 hx10 hf => ?_)
          refine lv_iconst (v := 4) hx hb dX10_diary_77 (by decide) ?_
          refine r_iald S hK hP hx10 dX10_diary_78 hf (fun x11 hf => ?_)
          refine lv_imul hx hb dX10_diary_79 ?_
          refine lv_iadd hx hb dX10_diary_80 ?_
          refine lv_iconst (v := 1) hx hb dX10_diary_81 (by decide) ?_
          refine lv_iadd hx hb dX10_diary_82 ?_
          refine lv_iload_n hx hb dX10_diary_83 rfl (lv_at hl 2 rfl) ?_
          refine r_iast S hK hG hP hS hx9 dX10_diary_84 hf (fun M H locs hP hS hf => ?_)
          refine lv_aload_n hx hb dX10_diary_85 rfl (lv_at hl 0 rfl) ?_
          refine gf_X10_7 S hK hP h0 dX10_diary_86 hf (fun x12 hx12 hf => ?_)
          refine lv_iconst (v := 4) hx hb dX10_diary_89 (by decide) ?_
          refine lv_dup2_11 hx hb dX10_diary_90 rfl rfl ?_
          refine r_iald S hK hP hx12 dX10_diary_91 hf (fun x13 hf => ?_)
          refine lv_iconst (v := 1) hx hb dX10_diary_92 (by decide) ?_
          refine lv_iadd hx hb dX10_diary_93 ?_
          refine r_iast S hK hG hP hS hx12 dX10_diary_94 hf (fun M H locs hP hS hf => ?_)
          refine lv_aload_n hx hb dX10_diary_95 rfl (lv_at hl 0 rfl) ?_
          refine gf_X10_7 S hK hP h0 dX10_diary_96 hf (fun x14 hx14 hf => ?_)
          refine lv_iconst (v := 4) hx hb dX10_diary_99 (by decide) ?_
          refine r_iald S hK hP hx14 dX10_diary_100 hf (fun x15 hf => ?_)
          exact hret _ _ _ _ _ _ dX10_diary_101 hP hS rfl hf
        · refine lv_ldc (v := (-1000000003)) hx hb hown (ht _ k_1234) dX10_diary_44 ?_
          exact hret _ _ _ _ _ _ dX10_diary_46 hP hS rfl hf
      · refine lv_ldc (v := (-1000000002)) hx hb hown (ht _ k_1233) dX10_diary_30 ?_
        exact hret _ _ _ _ _ _ dX10_diary_32 hP hS rfl hf
    · refine lv_ldc (v := (-1000000001)) hx hb hown (ht _ k_1232) dX10_diary_19 ?_
      exact hret _ _ _ _ _ _ dX10_diary_21 hP hS rfl hf
def f_X10_isNear (o : Nat) (p1 : Int32) (p2 : Int32) (p3 : Int32) (M : Mem) : Option (Int32 × Mem) :=
  if p1 < 0 then
    some (1, M)
  else
    vv (grf G2 o 0) fun x1 =>
    ld M x1 ((400 + (2 * p1)) + 1) 3510 fun x2 =>
    bd (f_X10_daysFrom o p2 x2 M) fun x3 M =>
    vv (grf G2 o 0) fun x4 =>
    ld M x4 (400 + (2 * p1)) 3510 fun x5 =>
    vv (p3 - x5) fun x6 =>
    if x3 < 0 then
      some (0, M)
    else
      jn (fun (v7 : Int32) (M : Mem) =>
        if v7 < x3 then
          some (0, M)
        else
          some (1, M)
      ) fun k8 =>
      if x6 < 0 then
        k8 (-x6) M
      else
        k8 x6 M
def rm_X10_isNear : Room := { frames := 2, cells := 0, slots := 0, locals := 47 }
set_option maxHeartbeats 4000000 in
set_option maxRecDepth 100000 in
theorem c_X10_isNear {l : Launch} {D : va_G} {K : Ks} {ad : Nat → Nat} {A : Nat → Prop} (hG : Gok G2 ad A) {o : Nat} {p1 : Int32} {p2 : Int32} {p3 : Int32} (h0 : gcl G2 o = 10) {M : Mem} {r : Int32} {M' : Mem} (hf : f_X10_isNear o p1 p2 p3 M = some (r, M')) : Ct l E2 D K G2 ad A yX10_isNear (ws_of yX10_isNear cX10_isNear 6 (some .boolean)) rm_X10_isNear .boolean [.ref (ad o), .int p1, .int p2, .int p3] M r M' := by
  have hst : Est A E2 := est2
  refine Ct.ofW (by decide) (Nat.le_of_ble_eq_true rfl) ?_
  intro p e s m args below meth c Q H locs ls S hK hE hP hS hl hret
  have hx := S.1
  have hb := S.2.1
  have hown := S.2.2.2.1
  have ht := S.2.2.2.2
  have hl : lv_has ls 6 [(0, .ref (ad o)), (1, .int p1), (2, .int p2), (3, .int p3)] := hl
  unfold f_X10_isNear at hf
  refine lv_iload_n hx hb dX10_isNear_0 rfl (lv_at hl 1 rfl) ?_
  refine r_if_ge (tgt := 6) S dX10_isNear_1 (by decide) hf (fun hf => ?_) (fun hf => ?_)
  · refine lv_aload_n hx hb dX10_isNear_6 rfl (lv_at hl 0 rfl) ?_
    refine lv_iload_n hx hb dX10_isNear_7 rfl (lv_at hl 2 rfl) ?_
    refine lv_aload_n hx hb dX10_isNear_8 rfl (lv_at hl 0 rfl) ?_
    refine gf_X10_7 S hK hP h0 dX10_isNear_9 hf (fun x1 hx1 hf => ?_)
    refine lv_sipush (v := 400) hx hb dX10_isNear_12 (by decide) ?_
    refine lv_iconst (v := 2) hx hb dX10_isNear_15 (by decide) ?_
    refine lv_iload_n hx hb dX10_isNear_16 rfl (lv_at hl 1 rfl) ?_
    refine lv_imul hx hb dX10_isNear_17 ?_
    refine lv_iadd hx hb dX10_isNear_18 ?_
    refine lv_iconst (v := 1) hx hb dX10_isNear_19 (by decide) ?_
    refine lv_iadd hx hb dX10_isNear_20 ?_
    refine r_iald S hK hP hx1 dX10_isNear_21 hf (fun x2 hf => ?_)
    refine r_callV (As := [.int p2, .int x2]) (rest := []) S hK hE hst hP hS h0 (by decide) rfl (cw_X10_326 ht ⟨Nat.le_of_ble_eq_true rfl, Nat.le_of_ble_eq_true rfl⟩) rfl hl.1 rfl (Nat.le_of_ble_eq_true rfl) dX10_isNear_22 z2 (fun _ _ h => c_X10_daysFrom hG  h0 h) hf (fun x3 M H locs hP hS bx3 hf => ?_)
    refine lv_istore (lv' := [(4, .int x3), (0, .ref (ad o)), (1, .int p1), (2, .int p2), (3, .int p3)]) hx hb dX10_isNear_25 hl (by decide) rfl (fun ls hl => ?_)
    refine lv_iload_n hx hb dX10_isNear_27 rfl (lv_at hl 4 rfl) ?_
    refine lv_aload_n hx hb dX10_isNear_28 rfl (lv_at hl 1 rfl) ?_
    refine gf_X10_7 S hK hP h0 dX10_isNear_29 hf (fun x4 hx4 hf => ?_)
    refine lv_sipush (v := 400) hx hb dX10_isNear_32 (by decide) ?_
    refine lv_iconst (v := 2) hx hb dX10_isNear_35 (by decide) ?_
    refine lv_iload_n hx hb dX10_isNear_36 rfl (lv_at hl 2 rfl) ?_
    refine lv_imul hx hb dX10_isNear_37 ?_
    refine lv_iadd hx hb dX10_isNear_38 ?_
    refine r_iald S hK hP hx4 dX10_isNear_39 hf (fun x5 hf => ?_)
    refine lv_isub hx hb dX10_isNear_40 ?_
    refine r_vi hf (fun x6 hf => ?_)
    refine lv_istore (lv' := [(5, .int x6), (4, .int x3), (0, .ref (ad o)), (1, .int p1), (2, .int p2), (3, .int p3)]) hx hb dX10_isNear_41 hl (by decide) rfl (fun ls hl => ?_)
    refine lv_iload hx hb dX10_isNear_43 (lv_at hl 1 rfl) ?_
    refine r_if_lt (tgt := 70) S dX10_isNear_45 (by decide) hf (fun hf => ?_) (fun hf => ?_)
    · refine lv_iconst (v := 0) hx hb dX10_isNear_70 (by decide) ?_
      exact hret _ _ _ _ _ _ dX10_isNear_71 hP hS rfl hf
    · refine lv_iload hx hb dX10_isNear_48 (lv_at hl 0 rfl) ?_
      obtain ⟨k8, hk8, hf⟩ := jn_w hf
      have J8 : ∀ (v7 : Int32) (M : Mem) (H : Heap) (locs : List Loc) (ls : Array Slot), lv_has ls 6 [(4, .int x3)] → va_P D classes (gws K G2 ad M) H → va_S A s.heap H locs → k8 v7 M = some (r, M') → W p l e rm_X10_isNear s m args below meth c H locs 0 0 Q (F0 m 61 ls [.int v7]) := by
        intro v7 M H locs ls hl hP hS hf
        rw [hk8] at hf
        refine lv_iload hx hb dX10_isNear_61 (lv_at hl 0 rfl) ?_
        refine r_icmp_lt (tgt := 70) S dX10_isNear_63 (by decide) hf (fun hf => ?_) (fun hf => ?_)
        · refine lv_iconst (v := 0) hx hb dX10_isNear_70 (by decide) ?_
          exact hret _ _ _ _ _ _ dX10_isNear_71 hP hS rfl hf
        · refine lv_iconst (v := 1) hx hb dX10_isNear_66 (by decide) ?_
          refine lv_goto (tgt := 71) hx hb dX10_isNear_67 (by decide) ?_
          exact hret _ _ _ _ _ _ dX10_isNear_71 hP hS rfl hf
      refine r_if_ge (tgt := 59) S dX10_isNear_50 (by decide) hf (fun hf => ?_) (fun hf => ?_)
      · refine lv_iload hx hb dX10_isNear_59 (lv_at hl 0 rfl) ?_
        exact J8 x6 M H locs ls (lv_sub hl [1] rfl) hP hS hf
      · refine lv_iload hx hb dX10_isNear_53 (lv_at hl 0 rfl) ?_
        refine lv_ineg hx hb dX10_isNear_55 ?_
        refine lv_goto (tgt := 61) hx hb dX10_isNear_56 (by decide) ?_
        exact J8 (-x6) M H locs ls (lv_sub hl [1] rfl) hP hS hf
  · refine lv_iconst (v := 1) hx hb dX10_isNear_4 (by decide) ?_
    exact hret _ _ _ _ _ _ dX10_isNear_5 hP hS rfl hf
theorem cw_X10_334 {R : Room} {s : State} {args : Array Value} (ht : ∀ w ∈ Tw, w.before args s = true) (hR : rm_X10_isNear.frames + 1 ≤ R.frames ∧ 8 + (6 + 11) + rm_X10_isNear.locals ≤ R.locals) : CallW R s args RX10 RX10 334 yX10_isNear cX10_isNear 6 (some .boolean) (ws_of yX10_isNear cX10_isNear 6 (some .boolean)) rm_X10_isNear 0 0 3 := cw_V 3 ht k_1537 k_1539 k_57 k_73 k_1540 (by decide +kernel) rfl rfl hR
def f_X10_could (o : Nat) (p1 : Int32) (p2 : Int32) (p3 : Int32) (M : Mem) : Option (Int32 × Mem) :=
  bd (f_X10_isPlace p1 M) fun x1 M =>
  if x1 = 0 then
    some ((-1000000001), M)
  else
    bd (f_X10_isIn (Int32.toInt64 p2) 0 9999 M) fun x2 M =>
    if x2 = 0 then
      some ((-1000000001), M)
    else
      bd (f_X10_isIn (Int32.toInt64 p3) 1 99 M) fun x3 M =>
      if x3 = 0 then
        some ((-1000000001), M)
      else
        vv ((p2 + p3) - 1) fun x4 =>
        it3 (fun rc8 (v5 : Int32) (v6 : Int32) (v7 : Int32) M =>
          vv (grf G2 o 0) fun x9 =>
          ld M x9 4 3510 fun x10 =>
          if v7 < x10 then
            vv (grf G2 o 0) fun x13 =>
            ld M x13 (400 + (2 * v7)) 3510 fun x14 =>
            jn (fun (v15 : Int32) (M : Mem) =>
              jn (fun (v17 : Int32) (M : Mem) =>
                if x14 < p2 then
                  rc8 v15 v17 (v7 + 1) M
                else
                  if x4 < x14 then
                    rc8 v15 v17 (v7 + 1) M
                  else
                    vv (grf G2 o 0) fun x19 =>
                    ld M x19 ((400 + (2 * v7)) + 1) 3510 fun x20 =>
                    if x20 = p1 then
                      rc8 v15 v17 (v7 + 1) M
                    else
                      some (0, M)
              ) fun k18 =>
              if x4 < x14 then
                if v6 < 0 then
                  k18 v7 M
                else
                  vv (grf G2 o 0) fun x21 =>
                  ld M x21 (400 + (2 * v6)) 3510 fun x22 =>
                  if x14 < x22 then
                    k18 v7 M
                  else
                    k18 v6 M
              else
                k18 v6 M
            ) fun k16 =>
            if p2 < x14 then
              k16 v5 M
            else
              if v5 < 0 then
                k16 v7 M
              else
                vv (grf G2 o 0) fun x23 =>
                ld M x23 (400 + (2 * v5)) 3510 fun x24 =>
                if x24 < x14 then
                  k16 v7 M
                else
                  k16 v5 M
          else
            bd (f_X10_isNear o v5 p1 p2 M) fun x11 M =>
            if x11 = 0 then
              some (0, M)
            else
              bd (f_X10_isNear o v6 p1 x4 M) fun x12 M =>
              if x12 = 0 then
                some (0, M)
              else
                some (1, M)
        ) fuel (-1) (-1) 0 M
def rm_X10_could : Room := { frames := 3, cells := 0, slots := 0, locals := 72 }
set_option maxHeartbeats 4000000 in
set_option maxRecDepth 100000 in
theorem c_X10_could {l : Launch} {D : va_G} {K : Ks} {ad : Nat → Nat} {A : Nat → Prop} (hG : Gok G2 ad A) {o : Nat} {p1 : Int32} {p2 : Int32} {p3 : Int32} (h0 : gcl G2 o = 10) {M : Mem} {r : Int32} {M' : Mem} (hf : f_X10_could o p1 p2 p3 M = some (r, M')) : Ct l E2 D K G2 ad A yX10_could (ws_of yX10_could cX10_could 9 (some .int)) rm_X10_could .int [.ref (ad o), .int p1, .int p2, .int p3] M r M' := by
  have hst : Est A E2 := est2
  refine Ct.ofW (by decide) (Nat.le_of_ble_eq_true rfl) ?_
  intro p e s m args below meth c Q H locs ls S hK hE hP hS hl hret
  have hx := S.1
  have hb := S.2.1
  have hown := S.2.2.2.1
  have ht := S.2.2.2.2
  have hl : lv_has ls 9 [(0, .ref (ad o)), (1, .int p1), (2, .int p2), (3, .int p3)] := hl
  unfold f_X10_could at hf
  refine lv_iload_n hx hb dX10_could_0 rfl (lv_at hl 1 rfl) ?_
  refine r_callS (As := [.int p1]) (rest := []) S hK hE hst hP hS (cw_X10_317 ht ⟨Nat.le_of_ble_eq_true rfl, Nat.le_of_ble_eq_true rfl⟩) rfl hl.1 rfl (Nat.le_of_ble_eq_true rfl) dX10_could_1 z2 (fun _ _ h => c_X10_isPlace hG  h) hf (fun x1 M H locs hP hS bx1 hf => ?_)
  refine r_if_eq (tgt := 31) S dX10_could_4 (by decide) hf (fun hf => ?_) (fun hf => ?_)
  · refine lv_ldc (v := (-1000000001)) hx hb hown (ht _ k_1232) dX10_could_31 ?_
    exact hret _ _ _ _ _ _ dX10_could_33 hP hS rfl hf
  · refine lv_iload_n hx hb dX10_could_7 rfl (lv_at hl 2 rfl) ?_
    refine lv_i2l (v := (Int32.toInt64 p2)) hx hb dX10_could_8 rfl ?_
    refine lv_lconst (v := 0) hx hb dX10_could_9 (by decide) ?_
    refine lv_ldc2 (v := 9999) hx hb hown (ht _ k_1244) dX10_could_10 ?_
    refine r_callS (As := [.long (Int32.toInt64 p2), .long 0, .long 9999]) (rest := []) S hK hE hst hP hS (cw_X10_74 ht ⟨Nat.le_of_ble_eq_true rfl, Nat.le_of_ble_eq_true rfl⟩) rfl hl.1 rfl (Nat.le_of_ble_eq_true rfl) dX10_could_13 z2 (fun _ _ h => c_X10_isIn hG  h) hf (fun x2 M H locs hP hS bx2 hf => ?_)
    refine r_if_eq (tgt := 31) S dX10_could_16 (by decide) hf (fun hf => ?_) (fun hf => ?_)
    · refine lv_ldc (v := (-1000000001)) hx hb hown (ht _ k_1232) dX10_could_31 ?_
      exact hret _ _ _ _ _ _ dX10_could_33 hP hS rfl hf
    · refine lv_iload_n hx hb dX10_could_19 rfl (lv_at hl 3 rfl) ?_
      refine lv_i2l (v := (Int32.toInt64 p3)) hx hb dX10_could_20 rfl ?_
      refine lv_lconst (v := 1) hx hb dX10_could_21 (by decide) ?_
      refine lv_ldc2 (v := 99) hx hb hown (ht _ k_1536) dX10_could_22 ?_
      refine r_callS (As := [.long (Int32.toInt64 p3), .long 1, .long 99]) (rest := []) S hK hE hst hP hS (cw_X10_74 ht ⟨Nat.le_of_ble_eq_true rfl, Nat.le_of_ble_eq_true rfl⟩) rfl hl.1 rfl (Nat.le_of_ble_eq_true rfl) dX10_could_25 z2 (fun _ _ h => c_X10_isIn hG  h) hf (fun x3 M H locs hP hS bx3 hf => ?_)
      refine r_if_ne (tgt := 34) S dX10_could_28 (by decide) hf (fun hf => ?_) (fun hf => ?_)
      · refine lv_iload_n hx hb dX10_could_34 rfl (lv_at hl 2 rfl) ?_
        refine lv_iload_n hx hb dX10_could_35 rfl (lv_at hl 3 rfl) ?_
        refine lv_iadd hx hb dX10_could_36 ?_
        refine lv_iconst (v := 1) hx hb dX10_could_37 (by decide) ?_
        refine lv_isub hx hb dX10_could_38 ?_
        refine r_vi hf (fun x4 hf => ?_)
        refine lv_istore (lv' := [(4, .int x4), (0, .ref (ad o)), (1, .int p1), (2, .int p2), (3, .int p3)]) hx hb dX10_could_39 hl (by decide) rfl (fun ls hl => ?_)
        refine lv_iconst (v := (-1)) hx hb dX10_could_41 (by decide) ?_
        refine lv_istore (lv' := [(5, .int (-1)), (4, .int x4), (0, .ref (ad o)), (1, .int p1), (2, .int p2), (3, .int p3)]) hx hb dX10_could_42 hl (by decide) rfl (fun ls hl => ?_)
        refine lv_iconst (v := (-1)) hx hb dX10_could_44 (by decide) ?_
        refine lv_istore (lv' := [(6, .int (-1)), (5, .int (-1)), (4, .int x4), (0, .ref (ad o)), (1, .int p1), (2, .int p2), (3, .int p3)]) hx hb dX10_could_45 hl (by decide) rfl (fun ls hl => ?_)
        refine lv_iconst (v := 0) hx hb dX10_could_47 (by decide) ?_
        refine lv_istore (lv' := [(7, .int 0), (6, .int (-1)), (5, .int (-1)), (4, .int x4), (0, .ref (ad o)), (1, .int p1), (2, .int p2), (3, .int p3)]) hx hb dX10_could_48 hl (by decide) rfl (fun ls hl => ?_)
        obtain ⟨F8, hF8, hf⟩ := it3_g hf
        have L8 : ∀ (n : Nat) (v5 : Int32) (v6 : Int32) (v7 : Int32) (M : Mem) (H : Heap) (locs : List Loc) (ls : Array Slot), lv_has ls 9 [(0, .ref (ad o)), (1, .int p1), (2, .int p2), (4, .int x4), (5, .int v5), (6, .int v6), (7, .int v7)] → va_P D classes (gws K G2 ad M) H → va_S A s.heap H locs → it3 F8 n v5 v6 v7 M = some (r, M') → W p l e rm_X10_could s m args below meth c H locs 0 0 Q (F0 m 50 ls []) := by
          intro n
          induction n with
          | zero => intro v5 v6 v7 M H locs ls hl hP hS hf; exact nomatch hf
          | succ n ih8 =>
            intro v5 v6 v7 M H locs ls hl hP hS hf
            obtain ⟨rc8, hrc8, hf⟩ := it3_w hf
            rw [← hrc8] at ih8
            rw [hF8] at hf
            refine lv_iload hx hb dX10_could_50 (lv_at hl 6 rfl) ?_
            refine lv_aload_n hx hb dX10_could_52 rfl (lv_at hl 0 rfl) ?_
            refine gf_X10_7 S hK hP h0 dX10_could_53 hf (fun x9 hx9 hf => ?_)
            refine lv_iconst (v := 4) hx hb dX10_could_56 (by decide) ?_
            refine r_iald S hK hP hx9 dX10_could_57 hf (fun x10 hf => ?_)
            refine r_icmp_ge (tgt := 193) S dX10_could_58 (by decide) hf (fun hf => ?_) (fun hf => ?_)
            · refine lv_aload_n hx hb dX10_could_193 rfl (lv_at hl 0 rfl) ?_
              refine lv_iload hx hb dX10_could_194 (lv_at hl 4 rfl) ?_
              refine lv_iload_n hx hb dX10_could_196 rfl (lv_at hl 1 rfl) ?_
              refine lv_iload_n hx hb dX10_could_197 rfl (lv_at hl 2 rfl) ?_
              refine r_callV (As := [.int v5, .int p1, .int p2]) (rest := []) S hK hE hst hP hS h0 (by decide) rfl (cw_X10_334 ht ⟨Nat.le_of_ble_eq_true rfl, Nat.le_of_ble_eq_true rfl⟩) rfl hl.1 rfl (Nat.le_of_ble_eq_true rfl) dX10_could_198 z2 (fun _ _ h => c_X10_isNear hG  h0 h) hf (fun x11 M H locs hP hS bx11 hf => ?_)
              refine r_if_eq (tgt := 220) S dX10_could_201 (by decide) hf (fun hf => ?_) (fun hf => ?_)
              · refine lv_iconst (v := 0) hx hb dX10_could_220 (by decide) ?_
                exact hret _ _ _ _ _ _ dX10_could_221 hP hS rfl hf
              · refine lv_aload_n hx hb dX10_could_204 rfl (lv_at hl 0 rfl) ?_
                refine lv_iload hx hb dX10_could_205 (lv_at hl 5 rfl) ?_
                refine lv_iload_n hx hb dX10_could_207 rfl (lv_at hl 1 rfl) ?_
                refine lv_iload hx hb dX10_could_208 (lv_at hl 3 rfl) ?_
                refine r_callV (As := [.int v6, .int p1, .int x4]) (rest := []) S hK hE hst hP hS h0 (by decide) rfl (cw_X10_334 ht ⟨Nat.le_of_ble_eq_true rfl, Nat.le_of_ble_eq_true rfl⟩) rfl hl.1 rfl (Nat.le_of_ble_eq_true rfl) dX10_could_210 z2 (fun _ _ h => c_X10_isNear hG  h0 h) hf (fun x12 M H locs hP hS bx12 hf => ?_)
                refine r_if_eq (tgt := 220) S dX10_could_213 (by decide) hf (fun hf => ?_) (fun hf => ?_)
                · refine lv_iconst (v := 0) hx hb dX10_could_220 (by decide) ?_
                  exact hret _ _ _ _ _ _ dX10_could_221 hP hS rfl hf
                · refine lv_iconst (v := 1) hx hb dX10_could_216 (by decide) ?_
                  refine lv_goto (tgt := 221) hx hb dX10_could_217 (by decide) ?_
                  exact hret _ _ _ _ _ _ dX10_could_221 hP hS rfl hf
            · refine lv_aload_n hx hb dX10_could_61 rfl (lv_at hl 0 rfl) ?_
              refine gf_X10_7 S hK hP h0 dX10_could_62 hf (fun x13 hx13 hf => ?_)
              refine lv_sipush (v := 400) hx hb dX10_could_65 (by decide) ?_
              refine lv_iconst (v := 2) hx hb dX10_could_68 (by decide) ?_
              refine lv_iload hx hb dX10_could_69 (lv_at hl 6 rfl) ?_
              refine lv_imul hx hb dX10_could_71 ?_
              refine lv_iadd hx hb dX10_could_72 ?_
              refine r_iald S hK hP hx13 dX10_could_73 hf (fun x14 hf => ?_)
              refine lv_istore (lv' := [(8, .int x14), (0, .ref (ad o)), (1, .int p1), (2, .int p2), (4, .int x4), (5, .int v5), (6, .int v6), (7, .int v7)]) hx hb dX10_could_74 hl (by decide) rfl (fun ls hl => ?_)
              refine lv_iload hx hb dX10_could_76 (lv_at hl 0 rfl) ?_
              refine lv_iload_n hx hb dX10_could_78 rfl (lv_at hl 3 rfl) ?_
              obtain ⟨k16, hk16, hf⟩ := jn_w hf
              have J16 : ∀ (v15 : Int32) (M : Mem) (H : Heap) (locs : List Loc) (ls : Array Slot), lv_has ls 9 [(0, .ref (ad o)), (1, .int p1), (2, .int p2), (4, .int x4), (6, .int v6), (7, .int v7), (8, .int x14)] → va_P D classes (gws K G2 ad M) H → va_S A s.heap H locs → k16 v15 M = some (r, M') → W p l e rm_X10_could s m args below meth c H locs 0 0 Q (F0 m 112 ls [.int v15]) := by
                intro v15 M H locs ls hl hP hS hf
                rw [hk16] at hf
                refine lv_istore (lv' := [(5, .int v15), (0, .ref (ad o)), (1, .int p1), (2, .int p2), (4, .int x4), (6, .int v6), (7, .int v7), (8, .int x14)]) hx hb dX10_could_112 hl (by decide) rfl (fun ls hl => ?_)
                refine lv_iload hx hb dX10_could_114 (lv_at hl 7 rfl) ?_
                refine lv_iload hx hb dX10_could_116 (lv_at hl 4 rfl) ?_
                obtain ⟨k18, hk18, hf⟩ := jn_w hf
                have J18 : ∀ (v17 : Int32) (M : Mem) (H : Heap) (locs : List Loc) (ls : Array Slot), lv_has ls 9 [(0, .ref (ad o)), (1, .int p1), (2, .int p2), (4, .int x4), (5, .int v15), (7, .int v7), (8, .int x14)] → va_P D classes (gws K G2 ad M) H → va_S A s.heap H locs → k18 v17 M = some (r, M') → W p l e rm_X10_could s m args below meth c H locs 0 0 Q (F0 m 151 ls [.int v17]) := by
                  intro v17 M H locs ls hl hP hS hf
                  rw [hk18] at hf
                  refine lv_istore (lv' := [(6, .int v17), (0, .ref (ad o)), (1, .int p1), (2, .int p2), (4, .int x4), (5, .int v15), (7, .int v7), (8, .int x14)]) hx hb dX10_could_151 hl (by decide) rfl (fun ls hl => ?_)
                  refine lv_iload hx hb dX10_could_153 (lv_at hl 7 rfl) ?_
                  refine lv_iload_n hx hb dX10_could_155 rfl (lv_at hl 3 rfl) ?_
                  refine r_icmp_lt (tgt := 187) S dX10_could_156 (by decide) hf (fun hf => ?_) (fun hf => ?_)
                  · refine lv_iinc (v := (v7 + 1)) (lv' := [(7, .int (v7 + 1)), (6, .int v17), (0, .ref (ad o)), (1, .int p1), (2, .int p2), (4, .int x4), (5, .int v15), (8, .int x14)]) hx hb dX10_could_187 hl (k := 6) rfl rfl (by decide) rfl (fun ls hl => ?_)
                    refine lv_goto (tgt := 50) hx hb dX10_could_190 (by decide) ?_
                    exact ih8 v15 v17 (v7 + 1) M H locs ls (lv_sub hl [2, 3, 4, 5, 6, 1, 0] rfl) hP hS hf
                  · refine lv_iload hx hb dX10_could_159 (lv_at hl 7 rfl) ?_
                    refine lv_iload hx hb dX10_could_161 (lv_at hl 4 rfl) ?_
                    refine r_icmp_gt (tgt := 187) S dX10_could_163 (by decide) hf (fun hf => ?_) (fun hf => ?_)
                    · refine lv_iinc (v := (v7 + 1)) (lv' := [(7, .int (v7 + 1)), (6, .int v17), (0, .ref (ad o)), (1, .int p1), (2, .int p2), (4, .int x4), (5, .int v15), (8, .int x14)]) hx hb dX10_could_187 hl (k := 6) rfl rfl (by decide) rfl (fun ls hl => ?_)
                      refine lv_goto (tgt := 50) hx hb dX10_could_190 (by decide) ?_
                      exact ih8 v15 v17 (v7 + 1) M H locs ls (lv_sub hl [2, 3, 4, 5, 6, 1, 0] rfl) hP hS hf
                    · refine lv_aload_n hx hb dX10_could_166 rfl (lv_at hl 1 rfl) ?_
                      refine gf_X10_7 S hK hP h0 dX10_could_167 hf (fun x19 hx19 hf => ?_)
                      refine lv_sipush (v := 400) hx hb dX10_could_170 (by decide) ?_
                      refine lv_iconst (v := 2) hx hb dX10_could_173 (by decide) ?_
                      refine lv_iload hx hb dX10_could_174 (lv_at hl 6 rfl) ?_
                      refine lv_imul hx hb dX10_could_176 ?_
                      refine lv_iadd hx hb dX10_could_177 ?_
                      refine lv_iconst (v := 1) hx hb dX10_could_178 (by decide) ?_
                      refine lv_iadd hx hb dX10_could_179 ?_
                      refine r_iald S hK hP hx19 dX10_could_180 hf (fun x20 hf => ?_)
                      refine lv_iload_n hx hb dX10_could_181 rfl (lv_at hl 2 rfl) ?_
                      refine r_icmp_eq (tgt := 187) S dX10_could_182 (by decide) hf (fun hf => ?_) (fun hf => ?_)
                      · refine lv_iinc (v := (v7 + 1)) (lv' := [(7, .int (v7 + 1)), (6, .int v17), (0, .ref (ad o)), (1, .int p1), (2, .int p2), (4, .int x4), (5, .int v15), (8, .int x14)]) hx hb dX10_could_187 hl (k := 6) rfl rfl (by decide) rfl (fun ls hl => ?_)
                        refine lv_goto (tgt := 50) hx hb dX10_could_190 (by decide) ?_
                        exact ih8 v15 v17 (v7 + 1) M H locs ls (lv_sub hl [2, 3, 4, 5, 6, 1, 0] rfl) hP hS hf
                      · refine lv_iconst (v := 0) hx hb dX10_could_185 (by decide) ?_
                        exact hret _ _ _ _ _ _ dX10_could_186 hP hS rfl hf
                refine r_icmp_le (tgt := 149) S dX10_could_118 (by decide) hf (fun hf => ?_) (fun hf => ?_)
                · refine lv_iload hx hb dX10_could_149 (lv_at hl 5 rfl) ?_
                  exact J18 v6 M H locs ls (lv_sub hl [1, 2, 3, 4, 0, 6, 7] rfl) hP hS hf
                · refine lv_iload hx hb dX10_could_121 (lv_at hl 5 rfl) ?_
                  refine r_if_lt (tgt := 144) S dX10_could_123 (by decide) hf (fun hf => ?_) (fun hf => ?_)
                  · refine lv_iload hx hb dX10_could_144 (lv_at hl 6 rfl) ?_
                    refine lv_goto (tgt := 151) hx hb dX10_could_146 (by decide) ?_
                    exact J18 v7 M H locs ls (lv_sub hl [1, 2, 3, 4, 0, 6, 7] rfl) hP hS hf
                  · refine lv_iload hx hb dX10_could_126 (lv_at hl 7 rfl) ?_
                    refine lv_aload_n hx hb dX10_could_128 rfl (lv_at hl 1 rfl) ?_
                    refine gf_X10_7 S hK hP h0 dX10_could_129 hf (fun x21 hx21 hf => ?_)
                    refine lv_sipush (v := 400) hx hb dX10_could_132 (by decide) ?_
                    refine lv_iconst (v := 2) hx hb dX10_could_135 (by decide) ?_
                    refine lv_iload hx hb dX10_could_136 (lv_at hl 5 rfl) ?_
                    refine lv_imul hx hb dX10_could_138 ?_
                    refine lv_iadd hx hb dX10_could_139 ?_
                    refine r_iald S hK hP hx21 dX10_could_140 hf (fun x22 hf => ?_)
                    refine r_icmp_ge (tgt := 149) S dX10_could_141 (by decide) hf (fun hf => ?_) (fun hf => ?_)
                    · refine lv_iload hx hb dX10_could_149 (lv_at hl 5 rfl) ?_
                      exact J18 v6 M H locs ls (lv_sub hl [1, 2, 3, 4, 0, 6, 7] rfl) hP hS hf
                    · refine lv_iload hx hb dX10_could_144 (lv_at hl 6 rfl) ?_
                      refine lv_goto (tgt := 151) hx hb dX10_could_146 (by decide) ?_
                      exact J18 v7 M H locs ls (lv_sub hl [1, 2, 3, 4, 0, 6, 7] rfl) hP hS hf
              refine r_icmp_gt (tgt := 110) S dX10_could_79 (by decide) hf (fun hf => ?_) (fun hf => ?_)
              · refine lv_iload hx hb dX10_could_110 (lv_at hl 5 rfl) ?_
                exact J16 v5 M H locs ls (lv_sub hl [1, 2, 3, 4, 6, 7, 0] rfl) hP hS hf
              · refine lv_iload hx hb dX10_could_82 (lv_at hl 5 rfl) ?_
                refine r_if_lt (tgt := 105) S dX10_could_84 (by decide) hf (fun hf => ?_) (fun hf => ?_)
                · refine lv_iload hx hb dX10_could_105 (lv_at hl 7 rfl) ?_
                  refine lv_goto (tgt := 112) hx hb dX10_could_107 (by decide) ?_
                  exact J16 v7 M H locs ls (lv_sub hl [1, 2, 3, 4, 6, 7, 0] rfl) hP hS hf
                · refine lv_iload hx hb dX10_could_87 (lv_at hl 0 rfl) ?_
                  refine lv_aload_n hx hb dX10_could_89 rfl (lv_at hl 1 rfl) ?_
                  refine gf_X10_7 S hK hP h0 dX10_could_90 hf (fun x23 hx23 hf => ?_)
                  refine lv_sipush (v := 400) hx hb dX10_could_93 (by decide) ?_
                  refine lv_iconst (v := 2) hx hb dX10_could_96 (by decide) ?_
                  refine lv_iload hx hb dX10_could_97 (lv_at hl 5 rfl) ?_
                  refine lv_imul hx hb dX10_could_99 ?_
                  refine lv_iadd hx hb dX10_could_100 ?_
                  refine r_iald S hK hP hx23 dX10_could_101 hf (fun x24 hf => ?_)
                  refine r_icmp_le (tgt := 110) S dX10_could_102 (by decide) hf (fun hf => ?_) (fun hf => ?_)
                  · refine lv_iload hx hb dX10_could_110 (lv_at hl 5 rfl) ?_
                    exact J16 v5 M H locs ls (lv_sub hl [1, 2, 3, 4, 6, 7, 0] rfl) hP hS hf
                  · refine lv_iload hx hb dX10_could_105 (lv_at hl 7 rfl) ?_
                    refine lv_goto (tgt := 112) hx hb dX10_could_107 (by decide) ?_
                    exact J16 v7 M H locs ls (lv_sub hl [1, 2, 3, 4, 6, 7, 0] rfl) hP hS hf
        exact L8 _ (-1) (-1) 0 M H locs ls (lv_sub hl [4, 5, 6, 3, 2, 1, 0] rfl) hP hS hf
      · refine lv_ldc (v := (-1000000001)) hx hb hown (ht _ k_1232) dX10_could_31 ?_
        exact hret _ _ _ _ _ _ dX10_could_33 hP hS rfl hf
def f_X10_ones (p0 : Int32) (M : Mem) : Option (Int32 × Mem) :=
  it2 (fun rc3 (v1 : Int32) (v2 : Int32) M =>
    if v2 < 16 then
      vv (v1 + ((p0 >>> (v2 &&& 31)) &&& 1)) fun x4 =>
      rc3 x4 (v2 + 1) M
    else
      some (v1, M)
  ) fuel 0 0 M
def rm_X10_ones : Room := { frames := 0, cells := 0, slots := 0, locals := 0 }
set_option maxHeartbeats 4000000 in
set_option maxRecDepth 100000 in
theorem c_X10_ones {l : Launch} {D : va_G} {K : Ks} {ad : Nat → Nat} {A : Nat → Prop} (hG : Gok G2 ad A) {p0 : Int32}  {M : Mem} {r : Int32} {M' : Mem} (hf : f_X10_ones p0 M = some (r, M')) : Ct l E2 D K G2 ad A yX10_ones (ws_of yX10_ones cX10_ones 3 (some .int)) rm_X10_ones .int [.int p0] M r M' := by
  have hst : Est A E2 := est2
  refine Ct.ofW (by decide) (Nat.le_of_ble_eq_true rfl) ?_
  intro p e s m args below meth c Q H locs ls S hK hE hP hS hl hret
  have hx := S.1
  have hb := S.2.1
  have hown := S.2.2.2.1
  have ht := S.2.2.2.2
  have hl : lv_has ls 3 [(0, .int p0)] := hl
  unfold f_X10_ones at hf
  refine lv_iconst (v := 0) hx hb dX10_ones_0 (by decide) ?_
  refine lv_istore_n (lv' := [(1, .int 0), (0, .int p0)]) hx hb dX10_ones_1 rfl hl (by decide) rfl (fun ls hl => ?_)
  refine lv_iconst (v := 0) hx hb dX10_ones_2 (by decide) ?_
  refine lv_istore_n (lv' := [(2, .int 0), (1, .int 0), (0, .int p0)]) hx hb dX10_ones_3 rfl hl (by decide) rfl (fun ls hl => ?_)
  obtain ⟨F3, hF3, hf⟩ := it2_g hf
  have L3 : ∀ (n : Nat) (v1 : Int32) (v2 : Int32) (M : Mem) (H : Heap) (locs : List Loc) (ls : Array Slot), lv_has ls 3 [(0, .int p0), (1, .int v1), (2, .int v2)] → va_P D classes (gws K G2 ad M) H → va_S A s.heap H locs → it2 F3 n v1 v2 M = some (r, M') → W p l e rm_X10_ones s m args below meth c H locs 0 0 Q (F0 m 4 ls []) := by
    intro n
    induction n with
    | zero => intro v1 v2 M H locs ls hl hP hS hf; exact nomatch hf
    | succ n ih3 =>
      intro v1 v2 M H locs ls hl hP hS hf
      obtain ⟨rc3, hrc3, hf⟩ := it2_w hf
      rw [← hrc3] at ih3
      rw [hF3] at hf
      refine lv_iload_n hx hb dX10_ones_4 rfl (lv_at hl 2 rfl) ?_
      refine lv_bipush (v := 16) hx hb dX10_ones_5 (by decide) ?_
      refine r_icmp_ge (tgt := 24) S dX10_ones_7 (by decide) hf (fun hf => ?_) (fun hf => ?_)
      · refine lv_iload_n hx hb dX10_ones_24 rfl (lv_at hl 1 rfl) ?_
        exact hret _ _ _ _ _ _ dX10_ones_25 hP hS rfl hf
      · refine lv_iload_n hx hb dX10_ones_10 rfl (lv_at hl 1 rfl) ?_
        refine lv_iload_n hx hb dX10_ones_11 rfl (lv_at hl 0 rfl) ?_
        refine lv_iload_n hx hb dX10_ones_12 rfl (lv_at hl 2 rfl) ?_
        refine lv_ishr hx hb dX10_ones_13 ?_
        refine lv_iconst (v := 1) hx hb dX10_ones_14 (by decide) ?_
        refine lv_iand hx hb dX10_ones_15 ?_
        refine lv_iadd hx hb dX10_ones_16 ?_
        refine r_vi hf (fun x4 hf => ?_)
        refine lv_istore_n (lv' := [(1, .int x4), (0, .int p0), (2, .int v2)]) hx hb dX10_ones_17 rfl hl (by decide) rfl (fun ls hl => ?_)
        refine lv_iinc (v := (v2 + 1)) (lv' := [(2, .int (v2 + 1)), (1, .int x4), (0, .int p0)]) hx hb dX10_ones_18 hl (k := 2) rfl rfl (by decide) rfl (fun ls hl => ?_)
        refine lv_goto (tgt := 4) hx hb dX10_ones_21 (by decide) ?_
        exact ih3 x4 (v2 + 1) M H locs ls (lv_sub hl [2, 1, 0] rfl) hP hS hf
  exact L3 _ 0 0 M H locs ls (lv_sub hl [2, 1, 0] rfl) hP hS hf
def f_X10_leaner (o : Nat) (p1 : Int32) (p2 : Int32) (p3 : Int32) (M : Mem) : Option (Int32 × Mem) :=
  vv (grf G2 o 0) fun x1 =>
  ld M x1 0 3510 fun x2 =>
  bd (f_X10_isIn (Int32.toInt64 p1) 0 (Int32.toInt64 (((1 : Int32) <<< (x2 &&& 31)) - 1)) M) fun x3 M =>
  if x3 = 0 then
    some ((-1000000001), M)
  else
    vv (grf G2 o 0) fun x4 =>
    ld M x4 5 3510 fun x5 =>
    bd (f_X10_isIn (Int32.toInt64 p2) 0 (Int32.toInt64 (((1 : Int32) <<< (x5 &&& 31)) - 1)) M) fun x6 M =>
    if x6 = 0 then
      some ((-1000000001), M)
    else
      bd (f_X10_isIn (Int32.toInt64 p3) 0 28 M) fun x7 M =>
      if x7 = 0 then
        some ((-1000000001), M)
      else
        vv (grf G2 o 0) fun x8 =>
        ld M x8 5 3510 fun x9 =>
        if x9 = 16 then
          some ((-1000000003), M)
        else
          vv (grf G2 o 0) fun x10 =>
          ld M x10 5 3510 fun x11 =>
          vv (440 + (3 * x11)) fun x12 =>
          vv (grf G2 o 0) fun x13 =>
          st M x13 x12 3510 p1 fun M =>
          vv (grf G2 o 0) fun x14 =>
          st M x14 (x12 + 1) 3510 p2 fun M =>
          vv (grf G2 o 0) fun x15 =>
          st M x15 (x12 + 2) 3510 p3 fun M =>
          vv (grf G2 o 0) fun x16 =>
          ld M x16 5 3510 fun x17 =>
          st M x16 5 3510 (x17 + 1) fun M =>
          vv (grf G2 o 0) fun x18 =>
          ld M x18 5 3510 fun x19 =>
          some ((x19 - 1), M)
def rm_X10_leaner : Room := { frames := 1, cells := 0, slots := 0, locals := 25 }
set_option maxHeartbeats 4000000 in
set_option maxRecDepth 100000 in
theorem c_X10_leaner {l : Launch} {D : va_G} {K : Ks} {ad : Nat → Nat} {A : Nat → Prop} (hG : Gok G2 ad A) {o : Nat} {p1 : Int32} {p2 : Int32} {p3 : Int32} (h0 : gcl G2 o = 10) {M : Mem} {r : Int32} {M' : Mem} (hf : f_X10_leaner o p1 p2 p3 M = some (r, M')) : Ct l E2 D K G2 ad A yX10_leaner (ws_of yX10_leaner cX10_leaner 5 (some .int)) rm_X10_leaner .int [.ref (ad o), .int p1, .int p2, .int p3] M r M' := by
  have hst : Est A E2 := est2
  refine Ct.ofW (by decide) (Nat.le_of_ble_eq_true rfl) ?_
  intro p e s m args below meth c Q H locs ls S hK hE hP hS hl hret
  have hx := S.1
  have hb := S.2.1
  have hown := S.2.2.2.1
  have ht := S.2.2.2.2
  have hl : lv_has ls 5 [(0, .ref (ad o)), (1, .int p1), (2, .int p2), (3, .int p3)] := hl
  unfold f_X10_leaner at hf
  refine lv_iload_n hx hb dX10_leaner_0 rfl (lv_at hl 1 rfl) ?_
  refine lv_i2l (v := (Int32.toInt64 p1)) hx hb dX10_leaner_1 rfl ?_
  refine lv_lconst (v := 0) hx hb dX10_leaner_2 (by decide) ?_
  refine lv_iconst (v := 1) hx hb dX10_leaner_3 (by decide) ?_
  refine lv_aload_n hx hb dX10_leaner_4 rfl (lv_at hl 0 rfl) ?_
  refine gf_X10_7 S hK hP h0 dX10_leaner_5 hf (fun x1 hx1 hf => ?_)
  refine lv_iconst (v := 0) hx hb dX10_leaner_8 (by decide) ?_
  refine r_iald S hK hP hx1 dX10_leaner_9 hf (fun x2 hf => ?_)
  refine lv_ishl hx hb dX10_leaner_10 ?_
  refine lv_iconst (v := 1) hx hb dX10_leaner_11 (by decide) ?_
  refine lv_isub hx hb dX10_leaner_12 ?_
  refine lv_i2l (v := (Int32.toInt64 (((1 : Int32) <<< (x2 &&& 31)) - 1))) hx hb dX10_leaner_13 rfl ?_
  refine r_callS (As := [.long (Int32.toInt64 p1), .long 0, .long (Int32.toInt64 (((1 : Int32) <<< (x2 &&& 31)) - 1))]) (rest := []) S hK hE hst hP hS (cw_X10_74 ht ⟨Nat.le_of_ble_eq_true rfl, Nat.le_of_ble_eq_true rfl⟩) rfl hl.1 rfl (Nat.le_of_ble_eq_true rfl) dX10_leaner_14 z2 (fun _ _ h => c_X10_isIn hG  h) hf (fun x3 M H locs hP hS bx3 hf => ?_)
  refine r_if_eq (tgt := 52) S dX10_leaner_17 (by decide) hf (fun hf => ?_) (fun hf => ?_)
  · refine lv_ldc (v := (-1000000001)) hx hb hown (ht _ k_1232) dX10_leaner_52 ?_
    exact hret _ _ _ _ _ _ dX10_leaner_54 hP hS rfl hf
  · refine lv_iload_n hx hb dX10_leaner_20 rfl (lv_at hl 2 rfl) ?_
    refine lv_i2l (v := (Int32.toInt64 p2)) hx hb dX10_leaner_21 rfl ?_
    refine lv_lconst (v := 0) hx hb dX10_leaner_22 (by decide) ?_
    refine lv_iconst (v := 1) hx hb dX10_leaner_23 (by decide) ?_
    refine lv_aload_n hx hb dX10_leaner_24 rfl (lv_at hl 0 rfl) ?_
    refine gf_X10_7 S hK hP h0 dX10_leaner_25 hf (fun x4 hx4 hf => ?_)
    refine lv_iconst (v := 5) hx hb dX10_leaner_28 (by decide) ?_
    refine r_iald S hK hP hx4 dX10_leaner_29 hf (fun x5 hf => ?_)
    refine lv_ishl hx hb dX10_leaner_30 ?_
    refine lv_iconst (v := 1) hx hb dX10_leaner_31 (by decide) ?_
    refine lv_isub hx hb dX10_leaner_32 ?_
    refine lv_i2l (v := (Int32.toInt64 (((1 : Int32) <<< (x5 &&& 31)) - 1))) hx hb dX10_leaner_33 rfl ?_
    refine r_callS (As := [.long (Int32.toInt64 p2), .long 0, .long (Int32.toInt64 (((1 : Int32) <<< (x5 &&& 31)) - 1))]) (rest := []) S hK hE hst hP hS (cw_X10_74 ht ⟨Nat.le_of_ble_eq_true rfl, Nat.le_of_ble_eq_true rfl⟩) rfl hl.1 rfl (Nat.le_of_ble_eq_true rfl) dX10_leaner_34 z2 (fun _ _ h => c_X10_isIn hG  h) hf (fun x6 M H locs hP hS bx6 hf => ?_)
    refine r_if_eq (tgt := 52) S dX10_leaner_37 (by decide) hf (fun hf => ?_) (fun hf => ?_)
    · refine lv_ldc (v := (-1000000001)) hx hb hown (ht _ k_1232) dX10_leaner_52 ?_
      exact hret _ _ _ _ _ _ dX10_leaner_54 hP hS rfl hf
    · refine lv_iload_n hx hb dX10_leaner_40 rfl (lv_at hl 3 rfl) ?_
      refine lv_i2l (v := (Int32.toInt64 p3)) hx hb dX10_leaner_41 rfl ?_
      refine lv_lconst (v := 0) hx hb dX10_leaner_42 (by decide) ?_
      refine lv_ldc2 (v := 28) hx hb hown (ht _ k_1545) dX10_leaner_43 ?_
      refine r_callS (As := [.long (Int32.toInt64 p3), .long 0, .long 28]) (rest := []) S hK hE hst hP hS (cw_X10_74 ht ⟨Nat.le_of_ble_eq_true rfl, Nat.le_of_ble_eq_true rfl⟩) rfl hl.1 rfl (Nat.le_of_ble_eq_true rfl) dX10_leaner_46 z2 (fun _ _ h => c_X10_isIn hG  h) hf (fun x7 M H locs hP hS bx7 hf => ?_)
      refine r_if_ne (tgt := 55) S dX10_leaner_49 (by decide) hf (fun hf => ?_) (fun hf => ?_)
      · refine lv_aload_n hx hb dX10_leaner_55 rfl (lv_at hl 0 rfl) ?_
        refine gf_X10_7 S hK hP h0 dX10_leaner_56 hf (fun x8 hx8 hf => ?_)
        refine lv_iconst (v := 5) hx hb dX10_leaner_59 (by decide) ?_
        refine r_iald S hK hP hx8 dX10_leaner_60 hf (fun x9 hf => ?_)
        refine lv_bipush (v := 16) hx hb dX10_leaner_61 (by decide) ?_
        refine r_icmp_ne (tgt := 69) S dX10_leaner_63 (by decide) hf (fun hf => ?_) (fun hf => ?_)
        · refine lv_sipush (v := 440) hx hb dX10_leaner_69 (by decide) ?_
          refine lv_iconst (v := 3) hx hb dX10_leaner_72 (by decide) ?_
          refine lv_aload_n hx hb dX10_leaner_73 rfl (lv_at hl 0 rfl) ?_
          refine gf_X10_7 S hK hP h0 dX10_leaner_74 hf (fun x10 hx10 hf => ?_)
          refine lv_iconst (v := 5) hx hb dX10_leaner_77 (by decide) ?_
          refine r_iald S hK hP hx10 dX10_leaner_78 hf (fun x11 hf => ?_)
          refine lv_imul hx hb dX10_leaner_79 ?_
          refine lv_iadd hx hb dX10_leaner_80 ?_
          refine r_vi hf (fun x12 hf => ?_)
          refine lv_istore (lv' := [(4, .int x12), (0, .ref (ad o)), (1, .int p1), (2, .int p2), (3, .int p3)]) hx hb dX10_leaner_81 hl (by decide) rfl (fun ls hl => ?_)
          refine lv_aload_n hx hb dX10_leaner_83 rfl (lv_at hl 1 rfl) ?_
          refine gf_X10_7 S hK hP h0 dX10_leaner_84 hf (fun x13 hx13 hf => ?_)
          refine lv_iload hx hb dX10_leaner_87 (lv_at hl 0 rfl) ?_
          refine lv_iload_n hx hb dX10_leaner_89 rfl (lv_at hl 2 rfl) ?_
          refine r_iast S hK hG hP hS hx13 dX10_leaner_90 hf (fun M H locs hP hS hf => ?_)
          refine lv_aload_n hx hb dX10_leaner_91 rfl (lv_at hl 1 rfl) ?_
          refine gf_X10_7 S hK hP h0 dX10_leaner_92 hf (fun x14 hx14 hf => ?_)
          refine lv_iload hx hb dX10_leaner_95 (lv_at hl 0 rfl) ?_
          refine lv_iconst (v := 1) hx hb dX10_leaner_97 (by decide) ?_
          refine lv_iadd hx hb dX10_leaner_98 ?_
          refine lv_iload_n hx hb dX10_leaner_99 rfl (lv_at hl 3 rfl) ?_
          refine r_iast S hK hG hP hS hx14 dX10_leaner_100 hf (fun M H locs hP hS hf => ?_)
          refine lv_aload_n hx hb dX10_leaner_101 rfl (lv_at hl 1 rfl) ?_
          refine gf_X10_7 S hK hP h0 dX10_leaner_102 hf (fun x15 hx15 hf => ?_)
          refine lv_iload hx hb dX10_leaner_105 (lv_at hl 0 rfl) ?_
          refine lv_iconst (v := 2) hx hb dX10_leaner_107 (by decide) ?_
          refine lv_iadd hx hb dX10_leaner_108 ?_
          refine lv_iload_n hx hb dX10_leaner_109 rfl (lv_at hl 4 rfl) ?_
          refine r_iast S hK hG hP hS hx15 dX10_leaner_110 hf (fun M H locs hP hS hf => ?_)
          refine lv_aload_n hx hb dX10_leaner_111 rfl (lv_at hl 1 rfl) ?_
          refine gf_X10_7 S hK hP h0 dX10_leaner_112 hf (fun x16 hx16 hf => ?_)
          refine lv_iconst (v := 5) hx hb dX10_leaner_115 (by decide) ?_
          refine lv_dup2_11 hx hb dX10_leaner_116 rfl rfl ?_
          refine r_iald S hK hP hx16 dX10_leaner_117 hf (fun x17 hf => ?_)
          refine lv_iconst (v := 1) hx hb dX10_leaner_118 (by decide) ?_
          refine lv_iadd hx hb dX10_leaner_119 ?_
          refine r_iast S hK hG hP hS hx16 dX10_leaner_120 hf (fun M H locs hP hS hf => ?_)
          refine lv_aload_n hx hb dX10_leaner_121 rfl (lv_at hl 1 rfl) ?_
          refine gf_X10_7 S hK hP h0 dX10_leaner_122 hf (fun x18 hx18 hf => ?_)
          refine lv_iconst (v := 5) hx hb dX10_leaner_125 (by decide) ?_
          refine r_iald S hK hP hx18 dX10_leaner_126 hf (fun x19 hf => ?_)
          refine lv_iconst (v := 1) hx hb dX10_leaner_127 (by decide) ?_
          refine lv_isub hx hb dX10_leaner_128 ?_
          exact hret _ _ _ _ _ _ dX10_leaner_129 hP hS rfl hf
        · refine lv_ldc (v := (-1000000003)) hx hb hown (ht _ k_1234) dX10_leaner_66 ?_
          exact hret _ _ _ _ _ _ dX10_leaner_68 hP hS rfl hf
      · refine lv_ldc (v := (-1000000001)) hx hb hown (ht _ k_1232) dX10_leaner_52 ?_
        exact hret _ _ _ _ _ _ dX10_leaner_54 hP hS rfl hf
theorem cw_X10_340 {R : Room} {s : State} {args : Array Value} (ht : ∀ w ∈ Tw, w.before args s = true) (hR : rm_X10_ones.frames + 1 ≤ R.frames ∧ 8 + (3 + 11) + rm_X10_ones.locals ≤ R.locals) : CallB R s args RX10 340 yX10_ones cX10_ones 3 (some .int) (ws_of yX10_ones cX10_ones 3 (some .int)) rm_X10_ones 0 0 1 ∧ (Cond.static yX10_ones).before args s = true := cw_S 1 ht k_1555 k_1556 k_73 k_1557 (by decide +kernel) rfl rfl hR
def f_X10_fallen (o : Nat) (p1 : Int32) (M : Mem) : Option (Int32 × Mem) :=
  it2 (fun rc3 (v1 : Int32) (v2 : Int32) M =>
    vv (grf G2 o 0) fun x4 =>
    ld M x4 5 3510 fun x5 =>
    if v2 < x5 then
      vv (440 + (3 * v2)) fun x6 =>
      vv (grf G2 o 0) fun x7 =>
      ld M x7 x6 3510 fun x8 =>
      bd (f_X10_ones (x8 &&& (p1 ^^^ (-1))) M) fun x9 M =>
      vv (grf G2 o 0) fun x10 =>
      ld M x10 (x6 + 1) 3510 fun x11 =>
      bd (f_X10_ones (x11 &&& (v1 ^^^ (-1))) M) fun x12 M =>
      vv (x9 + x12) fun x13 =>
      vv (grf G2 o 0) fun x14 =>
      ld M x14 (x6 + 2) 3510 fun x15 =>
      jn (fun (v16 : Int32) (M : Mem) =>
        vv (v1 ||| v16) fun x18 =>
        rc3 x18 (v2 + 1) M
      ) fun k17 =>
      if x13 < x15 then
        k17 ((1 : Int32) <<< (v2 &&& 31)) M
      else
        k17 0 M
    else
      some (v1, M)
  ) fuel 0 0 M
def rm_X10_fallen : Room := { frames := 1, cells := 0, slots := 0, locals := 22 }
set_option maxHeartbeats 4000000 in
set_option maxRecDepth 100000 in
theorem c_X10_fallen {l : Launch} {D : va_G} {K : Ks} {ad : Nat → Nat} {A : Nat → Prop} (hG : Gok G2 ad A) {o : Nat} {p1 : Int32} (h0 : gcl G2 o = 10) {M : Mem} {r : Int32} {M' : Mem} (hf : f_X10_fallen o p1 M = some (r, M')) : Ct l E2 D K G2 ad A yX10_fallen (ws_of yX10_fallen cX10_fallen 6 (some .int)) rm_X10_fallen .int [.ref (ad o), .int p1] M r M' := by
  have hst : Est A E2 := est2
  refine Ct.ofW (by decide) (Nat.le_of_ble_eq_true rfl) ?_
  intro p e s m args below meth c Q H locs ls S hK hE hP hS hl hret
  have hx := S.1
  have hb := S.2.1
  have hown := S.2.2.2.1
  have ht := S.2.2.2.2
  have hl : lv_has ls 6 [(0, .ref (ad o)), (1, .int p1)] := hl
  unfold f_X10_fallen at hf
  refine lv_iconst (v := 0) hx hb dX10_fallen_0 (by decide) ?_
  refine lv_istore_n (lv' := [(2, .int 0), (0, .ref (ad o)), (1, .int p1)]) hx hb dX10_fallen_1 rfl hl (by decide) rfl (fun ls hl => ?_)
  refine lv_iconst (v := 0) hx hb dX10_fallen_2 (by decide) ?_
  refine lv_istore_n (lv' := [(3, .int 0), (2, .int 0), (0, .ref (ad o)), (1, .int p1)]) hx hb dX10_fallen_3 rfl hl (by decide) rfl (fun ls hl => ?_)
  obtain ⟨F3, hF3, hf⟩ := it2_g hf
  have L3 : ∀ (n : Nat) (v1 : Int32) (v2 : Int32) (M : Mem) (H : Heap) (locs : List Loc) (ls : Array Slot), lv_has ls 6 [(0, .ref (ad o)), (1, .int p1), (2, .int v1), (3, .int v2)] → va_P D classes (gws K G2 ad M) H → va_S A s.heap H locs → it2 F3 n v1 v2 M = some (r, M') → W p l e rm_X10_fallen s m args below meth c H locs 0 0 Q (F0 m 4 ls []) := by
    intro n
    induction n with
    | zero => intro v1 v2 M H locs ls hl hP hS hf; exact nomatch hf
    | succ n ih3 =>
      intro v1 v2 M H locs ls hl hP hS hf
      obtain ⟨rc3, hrc3, hf⟩ := it2_w hf
      rw [← hrc3] at ih3
      rw [hF3] at hf
      refine lv_iload_n hx hb dX10_fallen_4 rfl (lv_at hl 3 rfl) ?_
      refine lv_aload_n hx hb dX10_fallen_5 rfl (lv_at hl 0 rfl) ?_
      refine gf_X10_7 S hK hP h0 dX10_fallen_6 hf (fun x4 hx4 hf => ?_)
      refine lv_iconst (v := 5) hx hb dX10_fallen_9 (by decide) ?_
      refine r_iald S hK hP hx4 dX10_fallen_10 hf (fun x5 hf => ?_)
      refine r_icmp_ge (tgt := 86) S dX10_fallen_11 (by decide) hf (fun hf => ?_) (fun hf => ?_)
      · refine lv_iload_n hx hb dX10_fallen_86 rfl (lv_at hl 2 rfl) ?_
        exact hret _ _ _ _ _ _ dX10_fallen_87 hP hS rfl hf
      · refine lv_sipush (v := 440) hx hb dX10_fallen_14 (by decide) ?_
        refine lv_iconst (v := 3) hx hb dX10_fallen_17 (by decide) ?_
        refine lv_iload_n hx hb dX10_fallen_18 rfl (lv_at hl 3 rfl) ?_
        refine lv_imul hx hb dX10_fallen_19 ?_
        refine lv_iadd hx hb dX10_fallen_20 ?_
        refine r_vi hf (fun x6 hf => ?_)
        refine lv_istore (lv' := [(4, .int x6), (0, .ref (ad o)), (1, .int p1), (2, .int v1), (3, .int v2)]) hx hb dX10_fallen_21 hl (by decide) rfl (fun ls hl => ?_)
        refine lv_aload_n hx hb dX10_fallen_23 rfl (lv_at hl 1 rfl) ?_
        refine gf_X10_7 S hK hP h0 dX10_fallen_24 hf (fun x7 hx7 hf => ?_)
        refine lv_iload hx hb dX10_fallen_27 (lv_at hl 0 rfl) ?_
        refine r_iald S hK hP hx7 dX10_fallen_29 hf (fun x8 hf => ?_)
        refine lv_iload_n hx hb dX10_fallen_30 rfl (lv_at hl 2 rfl) ?_
        refine lv_iconst (v := (-1)) hx hb dX10_fallen_31 (by decide) ?_
        refine lv_ixor hx hb dX10_fallen_32 ?_
        refine lv_iand hx hb dX10_fallen_33 ?_
        refine r_callS (As := [.int (x8 &&& (p1 ^^^ (-1)))]) (rest := []) S hK hE hst hP hS (cw_X10_340 ht ⟨Nat.le_of_ble_eq_true rfl, Nat.le_of_ble_eq_true rfl⟩) rfl hl.1 rfl (Nat.le_of_ble_eq_true rfl) dX10_fallen_34 z2 (fun _ _ h => c_X10_ones hG  h) hf (fun x9 M H locs hP hS bx9 hf => ?_)
        refine lv_aload_n hx hb dX10_fallen_37 rfl (lv_at hl 1 rfl) ?_
        refine gf_X10_7 S hK hP h0 dX10_fallen_38 hf (fun x10 hx10 hf => ?_)
        refine lv_iload hx hb dX10_fallen_41 (lv_at hl 0 rfl) ?_
        refine lv_iconst (v := 1) hx hb dX10_fallen_43 (by decide) ?_
        refine lv_iadd hx hb dX10_fallen_44 ?_
        refine r_iald S hK hP hx10 dX10_fallen_45 hf (fun x11 hf => ?_)
        refine lv_iload_n hx hb dX10_fallen_46 rfl (lv_at hl 3 rfl) ?_
        refine lv_iconst (v := (-1)) hx hb dX10_fallen_47 (by decide) ?_
        refine lv_ixor hx hb dX10_fallen_48 ?_
        refine lv_iand hx hb dX10_fallen_49 ?_
        refine r_callS (As := [.int (x11 &&& (v1 ^^^ (-1)))]) (rest := [.int x9]) S hK hE hst hP hS (cw_X10_340 ht ⟨Nat.le_of_ble_eq_true rfl, Nat.le_of_ble_eq_true rfl⟩) rfl hl.1 rfl (Nat.le_of_ble_eq_true rfl) dX10_fallen_50 z2 (fun _ _ h => c_X10_ones hG  h) hf (fun x12 M H locs hP hS bx12 hf => ?_)
        refine lv_iadd hx hb dX10_fallen_53 ?_
        refine r_vi hf (fun x13 hf => ?_)
        refine lv_istore (lv' := [(5, .int x13), (4, .int x6), (0, .ref (ad o)), (1, .int p1), (2, .int v1), (3, .int v2)]) hx hb dX10_fallen_54 hl (by decide) rfl (fun ls hl => ?_)
        refine lv_iload_n hx hb dX10_fallen_56 rfl (lv_at hl 4 rfl) ?_
        refine lv_iload hx hb dX10_fallen_57 (lv_at hl 0 rfl) ?_
        refine lv_aload_n hx hb dX10_fallen_59 rfl (lv_at hl 2 rfl) ?_
        refine gf_X10_7 S hK hP h0 dX10_fallen_60 hf (fun x14 hx14 hf => ?_)
        refine lv_iload hx hb dX10_fallen_63 (lv_at hl 1 rfl) ?_
        refine lv_iconst (v := 2) hx hb dX10_fallen_65 (by decide) ?_
        refine lv_iadd hx hb dX10_fallen_66 ?_
        refine r_iald S hK hP hx14 dX10_fallen_67 hf (fun x15 hf => ?_)
        obtain ⟨k17, hk17, hf⟩ := jn_w hf
        have J17 : ∀ (v16 : Int32) (M : Mem) (H : Heap) (locs : List Loc) (ls : Array Slot), lv_has ls 6 [(0, .ref (ad o)), (1, .int p1), (3, .int v2)] → va_P D classes (gws K G2 ad M) H → va_S A s.heap H locs → k17 v16 M = some (r, M') → W p l e rm_X10_fallen s m args below meth c H locs 0 0 Q (F0 m 78 ls [.int v16, .int v1]) := by
          intro v16 M H locs ls hl hP hS hf
          rw [hk17] at hf
          refine lv_ior hx hb dX10_fallen_78 ?_
          refine r_vi hf (fun x18 hf => ?_)
          refine lv_istore_n (lv' := [(2, .int x18), (0, .ref (ad o)), (1, .int p1), (3, .int v2)]) hx hb dX10_fallen_79 rfl hl (by decide) rfl (fun ls hl => ?_)
          refine lv_iinc (v := (v2 + 1)) (lv' := [(3, .int (v2 + 1)), (2, .int x18), (0, .ref (ad o)), (1, .int p1)]) hx hb dX10_fallen_80 hl (k := 3) rfl rfl (by decide) rfl (fun ls hl => ?_)
          refine lv_goto (tgt := 4) hx hb dX10_fallen_83 (by decide) ?_
          exact ih3 x18 (v2 + 1) M H locs ls (lv_sub hl [2, 3, 1, 0] rfl) hP hS hf
        refine r_icmp_ge (tgt := 77) S dX10_fallen_68 (by decide) hf (fun hf => ?_) (fun hf => ?_)
        · refine lv_iconst (v := 0) hx hb dX10_fallen_77 (by decide) ?_
          exact J17 0 M H locs ls (lv_sub hl [2, 3, 5] rfl) hP hS hf
        · refine lv_iconst (v := 1) hx hb dX10_fallen_71 (by decide) ?_
          refine lv_iload_n hx hb dX10_fallen_72 rfl (lv_at hl 5 rfl) ?_
          refine lv_ishl hx hb dX10_fallen_73 ?_
          refine lv_goto (tgt := 78) hx hb dX10_fallen_74 (by decide) ?_
          exact J17 ((1 : Int32) <<< (v2 &&& 31)) M H locs ls (lv_sub hl [2, 3, 5] rfl) hP hS hf
  exact L3 _ 0 0 M H locs ls (lv_sub hl [2, 3, 1, 0] rfl) hP hS hf
theorem cw_X10_345 {R : Room} {s : State} {args : Array Value} (ht : ∀ w ∈ Tw, w.before args s = true) (hR : rm_X10_fallen.frames + 1 ≤ R.frames ∧ 8 + (6 + 11) + rm_X10_fallen.locals ≤ R.locals) : CallW R s args RX10 RX10 345 yX10_fallen cX10_fallen 6 (some .int) (ws_of yX10_fallen cX10_fallen 6 (some .int)) rm_X10_fallen 0 0 1 := cw_V 1 ht k_1551 k_1553 k_58 k_73 k_1554 (by decide +kernel) rfl rfl hR
def f_X10_falls (o : Nat) (p1 : Int32) (M : Mem) : Option (Int32 × Mem) :=
  bd (f_X10_isIn (Int32.toInt64 p1) 0 4095 M) fun x1 M =>
  if x1 = 0 then
    some ((-1000000001), M)
  else
    bd (f_X10_fallen o p1 M) fun x2 M =>
    some (x2, M)
def rm_X10_falls : Room := { frames := 2, cells := 0, slots := 0, locals := 47 }
set_option maxHeartbeats 4000000 in
set_option maxRecDepth 100000 in
theorem c_X10_falls {l : Launch} {D : va_G} {K : Ks} {ad : Nat → Nat} {A : Nat → Prop} (hG : Gok G2 ad A) {o : Nat} {p1 : Int32} (h0 : gcl G2 o = 10) {M : Mem} {r : Int32} {M' : Mem} (hf : f_X10_falls o p1 M = some (r, M')) : Ct l E2 D K G2 ad A yX10_falls (ws_of yX10_falls cX10_falls 2 (some .int)) rm_X10_falls .int [.ref (ad o), .int p1] M r M' := by
  have hst : Est A E2 := est2
  refine Ct.ofW (by decide) (Nat.le_of_ble_eq_true rfl) ?_
  intro p e s m args below meth c Q H locs ls S hK hE hP hS hl hret
  have hx := S.1
  have hb := S.2.1
  have hown := S.2.2.2.1
  have ht := S.2.2.2.2
  have hl : lv_has ls 2 [(0, .ref (ad o)), (1, .int p1)] := hl
  unfold f_X10_falls at hf
  refine lv_iload_n hx hb dX10_falls_0 rfl (lv_at hl 1 rfl) ?_
  refine lv_i2l (v := (Int32.toInt64 p1)) hx hb dX10_falls_1 rfl ?_
  refine lv_lconst (v := 0) hx hb dX10_falls_2 (by decide) ?_
  refine lv_ldc2 (v := 4095) hx hb hown (ht _ k_1550) dX10_falls_3 ?_
  refine r_callS (As := [.long (Int32.toInt64 p1), .long 0, .long 4095]) (rest := []) S hK hE hst hP hS (cw_X10_74 ht ⟨Nat.le_of_ble_eq_true rfl, Nat.le_of_ble_eq_true rfl⟩) rfl hl.1 rfl (Nat.le_of_ble_eq_true rfl) dX10_falls_6 z2 (fun _ _ h => c_X10_isIn hG  h) hf (fun x1 M H locs hP hS bx1 hf => ?_)
  refine r_if_eq (tgt := 20) S dX10_falls_9 (by decide) hf (fun hf => ?_) (fun hf => ?_)
  · refine lv_ldc (v := (-1000000001)) hx hb hown (ht _ k_1232) dX10_falls_20 ?_
    exact hret _ _ _ _ _ _ dX10_falls_22 hP hS rfl hf
  · refine lv_aload_n hx hb dX10_falls_12 rfl (lv_at hl 0 rfl) ?_
    refine lv_iload_n hx hb dX10_falls_13 rfl (lv_at hl 1 rfl) ?_
    refine r_callV (As := [.int p1]) (rest := []) S hK hE hst hP hS h0 (by decide) rfl (cw_X10_345 ht ⟨Nat.le_of_ble_eq_true rfl, Nat.le_of_ble_eq_true rfl⟩) rfl hl.1 rfl (Nat.le_of_ble_eq_true rfl) dX10_falls_14 z2 (fun _ _ h => c_X10_fallen hG  h0 h) hf (fun x2 M H locs hP hS bx2 hf => ?_)
    refine lv_goto (tgt := 22) hx hb dX10_falls_17 (by decide) ?_
    exact hret _ _ _ _ _ _ dX10_falls_22 hP hS rfl hf
def f_X10_left (o : Nat) (p1 : Int32) (M : Mem) : Option (Int32 × Mem) :=
  bd (f_X10_isIn (Int32.toInt64 p1) 0 4095 M) fun x1 M =>
  if x1 = 0 then
    some ((-1000000001), M)
  else
    vv (grf G2 o 0) fun x2 =>
    ld M x2 5 3510 fun x3 =>
    bd (f_X10_fallen o p1 M) fun x4 M =>
    some (((((1 : Int32) <<< (x3 &&& 31)) - 1) &&& (x4 ^^^ (-1))), M)
def rm_X10_left : Room := { frames := 2, cells := 0, slots := 0, locals := 47 }
set_option maxHeartbeats 4000000 in
set_option maxRecDepth 100000 in
theorem c_X10_left {l : Launch} {D : va_G} {K : Ks} {ad : Nat → Nat} {A : Nat → Prop} (hG : Gok G2 ad A) {o : Nat} {p1 : Int32} (h0 : gcl G2 o = 10) {M : Mem} {r : Int32} {M' : Mem} (hf : f_X10_left o p1 M = some (r, M')) : Ct l E2 D K G2 ad A yX10_left (ws_of yX10_left cX10_left 2 (some .int)) rm_X10_left .int [.ref (ad o), .int p1] M r M' := by
  have hst : Est A E2 := est2
  refine Ct.ofW (by decide) (Nat.le_of_ble_eq_true rfl) ?_
  intro p e s m args below meth c Q H locs ls S hK hE hP hS hl hret
  have hx := S.1
  have hb := S.2.1
  have hown := S.2.2.2.1
  have ht := S.2.2.2.2
  have hl : lv_has ls 2 [(0, .ref (ad o)), (1, .int p1)] := hl
  unfold f_X10_left at hf
  refine lv_iload_n hx hb dX10_left_0 rfl (lv_at hl 1 rfl) ?_
  refine lv_i2l (v := (Int32.toInt64 p1)) hx hb dX10_left_1 rfl ?_
  refine lv_lconst (v := 0) hx hb dX10_left_2 (by decide) ?_
  refine lv_ldc2 (v := 4095) hx hb hown (ht _ k_1550) dX10_left_3 ?_
  refine r_callS (As := [.long (Int32.toInt64 p1), .long 0, .long 4095]) (rest := []) S hK hE hst hP hS (cw_X10_74 ht ⟨Nat.le_of_ble_eq_true rfl, Nat.le_of_ble_eq_true rfl⟩) rfl hl.1 rfl (Nat.le_of_ble_eq_true rfl) dX10_left_6 z2 (fun _ _ h => c_X10_isIn hG  h) hf (fun x1 M H locs hP hS bx1 hf => ?_)
  refine r_if_eq (tgt := 33) S dX10_left_9 (by decide) hf (fun hf => ?_) (fun hf => ?_)
  · refine lv_ldc (v := (-1000000001)) hx hb hown (ht _ k_1232) dX10_left_33 ?_
    exact hret _ _ _ _ _ _ dX10_left_35 hP hS rfl hf
  · refine lv_iconst (v := 1) hx hb dX10_left_12 (by decide) ?_
    refine lv_aload_n hx hb dX10_left_13 rfl (lv_at hl 0 rfl) ?_
    refine gf_X10_7 S hK hP h0 dX10_left_14 hf (fun x2 hx2 hf => ?_)
    refine lv_iconst (v := 5) hx hb dX10_left_17 (by decide) ?_
    refine r_iald S hK hP hx2 dX10_left_18 hf (fun x3 hf => ?_)
    refine lv_ishl hx hb dX10_left_19 ?_
    refine lv_iconst (v := 1) hx hb dX10_left_20 (by decide) ?_
    refine lv_isub hx hb dX10_left_21 ?_
    refine lv_aload_n hx hb dX10_left_22 rfl (lv_at hl 0 rfl) ?_
    refine lv_iload_n hx hb dX10_left_23 rfl (lv_at hl 1 rfl) ?_
    refine r_callV (As := [.int p1]) (rest := [.int (((1 : Int32) <<< (x3 &&& 31)) - 1)]) S hK hE hst hP hS h0 (by decide) rfl (cw_X10_345 ht ⟨Nat.le_of_ble_eq_true rfl, Nat.le_of_ble_eq_true rfl⟩) rfl hl.1 rfl (Nat.le_of_ble_eq_true rfl) dX10_left_24 z2 (fun _ _ h => c_X10_fallen hG  h0 h) hf (fun x4 M H locs hP hS bx4 hf => ?_)
    refine lv_iconst (v := (-1)) hx hb dX10_left_27 (by decide) ?_
    refine lv_ixor hx hb dX10_left_28 ?_
    refine lv_iand hx hb dX10_left_29 ?_
    refine lv_goto (tgt := 35) hx hb dX10_left_30 (by decide) ?_
    exact hret _ _ _ _ _ _ dX10_left_35 hP hS rfl hf
def f_X10_pillar (o : Nat) (M : Mem) : Option (Int32 × Mem) :=
  it2 (fun rc3 (v1 : Int32) (v2 : Int32) M =>
    vv (grf G2 o 0) fun x4 =>
    ld M x4 0 3510 fun x5 =>
    if v2 < x5 then
      if v1 < 0 then
        rc3 v2 (v2 + 1) M
      else
        bd (f_X10_fallen o ((1 : Int32) <<< (v2 &&& 31)) M) fun x7 M =>
        bd (f_X10_ones x7 M) fun x8 M =>
        bd (f_X10_fallen o ((1 : Int32) <<< (v1 &&& 31)) M) fun x9 M =>
        bd (f_X10_ones x9 M) fun x10 M =>
        if x10 < x8 then
          rc3 v2 (v2 + 1) M
        else
          rc3 v1 (v2 + 1) M
    else
      bd (f_X10_orNone v1 M) fun x6 M =>
      some (x6, M)
  ) fuel (-1) 0 M
def rm_X10_pillar : Room := { frames := 2, cells := 0, slots := 0, locals := 47 }
set_option maxHeartbeats 4000000 in
set_option maxRecDepth 100000 in
theorem c_X10_pillar {l : Launch} {D : va_G} {K : Ks} {ad : Nat → Nat} {A : Nat → Prop} (hG : Gok G2 ad A) {o : Nat} (h0 : gcl G2 o = 10) {M : Mem} {r : Int32} {M' : Mem} (hf : f_X10_pillar o M = some (r, M')) : Ct l E2 D K G2 ad A yX10_pillar (ws_of yX10_pillar cX10_pillar 3 (some .int)) rm_X10_pillar .int [.ref (ad o)] M r M' := by
  have hst : Est A E2 := est2
  refine Ct.ofW (by decide) (Nat.le_of_ble_eq_true rfl) ?_
  intro p e s m args below meth c Q H locs ls S hK hE hP hS hl hret
  have hx := S.1
  have hb := S.2.1
  have hown := S.2.2.2.1
  have ht := S.2.2.2.2
  have hl : lv_has ls 3 [(0, .ref (ad o))] := hl
  unfold f_X10_pillar at hf
  refine lv_iconst (v := (-1)) hx hb dX10_pillar_0 (by decide) ?_
  refine lv_istore_n (lv' := [(1, .int (-1)), (0, .ref (ad o))]) hx hb dX10_pillar_1 rfl hl (by decide) rfl (fun ls hl => ?_)
  refine lv_iconst (v := 0) hx hb dX10_pillar_2 (by decide) ?_
  refine lv_istore_n (lv' := [(2, .int 0), (1, .int (-1)), (0, .ref (ad o))]) hx hb dX10_pillar_3 rfl hl (by decide) rfl (fun ls hl => ?_)
  obtain ⟨F3, hF3, hf⟩ := it2_g hf
  have L3 : ∀ (n : Nat) (v1 : Int32) (v2 : Int32) (M : Mem) (H : Heap) (locs : List Loc) (ls : Array Slot), lv_has ls 3 [(0, .ref (ad o)), (1, .int v1), (2, .int v2)] → va_P D classes (gws K G2 ad M) H → va_S A s.heap H locs → it2 F3 n v1 v2 M = some (r, M') → W p l e rm_X10_pillar s m args below meth c H locs 0 0 Q (F0 m 4 ls []) := by
    intro n
    induction n with
    | zero => intro v1 v2 M H locs ls hl hP hS hf; exact nomatch hf
    | succ n ih3 =>
      intro v1 v2 M H locs ls hl hP hS hf
      obtain ⟨rc3, hrc3, hf⟩ := it2_w hf
      rw [← hrc3] at ih3
      rw [hF3] at hf
      refine lv_iload_n hx hb dX10_pillar_4 rfl (lv_at hl 2 rfl) ?_
      refine lv_aload_n hx hb dX10_pillar_5 rfl (lv_at hl 0 rfl) ?_
      refine gf_X10_7 S hK hP h0 dX10_pillar_6 hf (fun x4 hx4 hf => ?_)
      refine lv_iconst (v := 0) hx hb dX10_pillar_9 (by decide) ?_
      refine r_iald S hK hP hx4 dX10_pillar_10 hf (fun x5 hf => ?_)
      refine r_icmp_ge (tgt := 53) S dX10_pillar_11 (by decide) hf (fun hf => ?_) (fun hf => ?_)
      · refine lv_iload_n hx hb dX10_pillar_53 rfl (lv_at hl 1 rfl) ?_
        refine r_callS (As := [.int v1]) (rest := []) S hK hE hst hP hS (cw_X10_141 ht ⟨Nat.le_of_ble_eq_true rfl, Nat.le_of_ble_eq_true rfl⟩) rfl hl.1 rfl (Nat.le_of_ble_eq_true rfl) dX10_pillar_54 z2 (fun _ _ h => c_X10_orNone hG  h) hf (fun x6 M H locs hP hS bx6 hf => ?_)
        exact hret _ _ _ _ _ _ dX10_pillar_57 hP hS rfl hf
      · refine lv_iload_n hx hb dX10_pillar_14 rfl (lv_at hl 1 rfl) ?_
        refine r_if_lt (tgt := 41) S dX10_pillar_15 (by decide) hf (fun hf => ?_) (fun hf => ?_)
        · refine lv_iload_n hx hb dX10_pillar_41 rfl (lv_at hl 2 rfl) ?_
          refine lv_goto (tgt := 46) hx hb dX10_pillar_42 (by decide) ?_
          refine lv_istore_n (lv' := [(1, .int v2), (0, .ref (ad o)), (2, .int v2)]) hx hb dX10_pillar_46 rfl hl (by decide) rfl (fun ls hl => ?_)
          refine lv_iinc (v := (v2 + 1)) (lv' := [(2, .int (v2 + 1)), (1, .int v2), (0, .ref (ad o))]) hx hb dX10_pillar_47 hl (k := 2) rfl rfl (by decide) rfl (fun ls hl => ?_)
          refine lv_goto (tgt := 4) hx hb dX10_pillar_50 (by decide) ?_
          exact ih3 v2 (v2 + 1) M H locs ls (lv_sub hl [2, 1, 0] rfl) hP hS hf
        · refine lv_aload_n hx hb dX10_pillar_18 rfl (lv_at hl 0 rfl) ?_
          refine lv_iconst (v := 1) hx hb dX10_pillar_19 (by decide) ?_
          refine lv_iload_n hx hb dX10_pillar_20 rfl (lv_at hl 2 rfl) ?_
          refine lv_ishl hx hb dX10_pillar_21 ?_
          refine r_callV (As := [.int ((1 : Int32) <<< (v2 &&& 31))]) (rest := []) S hK hE hst hP hS h0 (by decide) rfl (cw_X10_345 ht ⟨Nat.le_of_ble_eq_true rfl, Nat.le_of_ble_eq_true rfl⟩) rfl hl.1 rfl (Nat.le_of_ble_eq_true rfl) dX10_pillar_22 z2 (fun _ _ h => c_X10_fallen hG  h0 h) hf (fun x7 M H locs hP hS bx7 hf => ?_)
          refine r_callS (As := [.int x7]) (rest := []) S hK hE hst hP hS (cw_X10_340 ht ⟨Nat.le_of_ble_eq_true rfl, Nat.le_of_ble_eq_true rfl⟩) rfl hl.1 rfl (Nat.le_of_ble_eq_true rfl) dX10_pillar_25 z2 (fun _ _ h => c_X10_ones hG  h) hf (fun x8 M H locs hP hS bx8 hf => ?_)
          refine lv_aload_n hx hb dX10_pillar_28 rfl (lv_at hl 0 rfl) ?_
          refine lv_iconst (v := 1) hx hb dX10_pillar_29 (by decide) ?_
          refine lv_iload_n hx hb dX10_pillar_30 rfl (lv_at hl 1 rfl) ?_
          refine lv_ishl hx hb dX10_pillar_31 ?_
          refine r_callV (As := [.int ((1 : Int32) <<< (v1 &&& 31))]) (rest := [.int x8]) S hK hE hst hP hS h0 (by decide) rfl (cw_X10_345 ht ⟨Nat.le_of_ble_eq_true rfl, Nat.le_of_ble_eq_true rfl⟩) rfl hl.1 rfl (Nat.le_of_ble_eq_true rfl) dX10_pillar_32 z2 (fun _ _ h => c_X10_fallen hG  h0 h) hf (fun x9 M H locs hP hS bx9 hf => ?_)
          refine r_callS (As := [.int x9]) (rest := [.int x8]) S hK hE hst hP hS (cw_X10_340 ht ⟨Nat.le_of_ble_eq_true rfl, Nat.le_of_ble_eq_true rfl⟩) rfl hl.1 rfl (Nat.le_of_ble_eq_true rfl) dX10_pillar_35 z2 (fun _ _ h => c_X10_ones hG  h) hf (fun x10 M H locs hP hS bx10 hf => ?_)
          refine r_icmp_le (tgt := 45) S dX10_pillar_38 (by decide) hf (fun hf => ?_) (fun hf => ?_)
          · refine lv_iload_n hx hb dX10_pillar_45 rfl (lv_at hl 1 rfl) ?_
            refine lv_istore_n (lv' := [(1, .int v1), (0, .ref (ad o)), (2, .int v2)]) hx hb dX10_pillar_46 rfl hl (by decide) rfl (fun ls hl => ?_)
            refine lv_iinc (v := (v2 + 1)) (lv' := [(2, .int (v2 + 1)), (1, .int v1), (0, .ref (ad o))]) hx hb dX10_pillar_47 hl (k := 2) rfl rfl (by decide) rfl (fun ls hl => ?_)
            refine lv_goto (tgt := 4) hx hb dX10_pillar_50 (by decide) ?_
            exact ih3 v1 (v2 + 1) M H locs ls (lv_sub hl [2, 1, 0] rfl) hP hS hf
          · refine lv_iload_n hx hb dX10_pillar_41 rfl (lv_at hl 2 rfl) ?_
            refine lv_goto (tgt := 46) hx hb dX10_pillar_42 (by decide) ?_
            refine lv_istore_n (lv' := [(1, .int v2), (0, .ref (ad o)), (2, .int v2)]) hx hb dX10_pillar_46 rfl hl (by decide) rfl (fun ls hl => ?_)
            refine lv_iinc (v := (v2 + 1)) (lv' := [(2, .int (v2 + 1)), (1, .int v2), (0, .ref (ad o))]) hx hb dX10_pillar_47 hl (k := 2) rfl rfl (by decide) rfl (fun ls hl => ?_)
            refine lv_goto (tgt := 4) hx hb dX10_pillar_50 (by decide) ?_
            exact ih3 v2 (v2 + 1) M H locs ls (lv_sub hl [2, 1, 0] rfl) hP hS hf
  exact L3 _ (-1) 0 M H locs ls (lv_sub hl [2, 1, 0] rfl) hP hS hf
def f_X10_source (o : Nat) (p1 : Int32) (M : Mem) : Option (Int32 × Mem) :=
  bd (f_X10_isIn (Int32.toInt64 p1) 0 65535 M) fun x1 M =>
  if x1 = 0 then
    some ((-1000000001), M)
  else
    vv (grf G2 o 0) fun x2 =>
    ld M x2 6 3510 fun x3 =>
    if x3 = 8 then
      some ((-1000000003), M)
    else
      vv (grf G2 o 0) fun x4 =>
      vv (grf G2 o 0) fun x5 =>
      ld M x5 6 3510 fun x6 =>
      st M x4 (490 + x6) 3510 p1 fun M =>
      vv (grf G2 o 0) fun x7 =>
      ld M x7 6 3510 fun x8 =>
      st M x7 6 3510 (x8 + 1) fun M =>
      vv (grf G2 o 0) fun x9 =>
      ld M x9 6 3510 fun x10 =>
      some ((x10 - 1), M)
def rm_X10_source : Room := { frames := 1, cells := 0, slots := 0, locals := 25 }
set_option maxHeartbeats 4000000 in
set_option maxRecDepth 100000 in
theorem c_X10_source {l : Launch} {D : va_G} {K : Ks} {ad : Nat → Nat} {A : Nat → Prop} (hG : Gok G2 ad A) {o : Nat} {p1 : Int32} (h0 : gcl G2 o = 10) {M : Mem} {r : Int32} {M' : Mem} (hf : f_X10_source o p1 M = some (r, M')) : Ct l E2 D K G2 ad A yX10_source (ws_of yX10_source cX10_source 2 (some .int)) rm_X10_source .int [.ref (ad o), .int p1] M r M' := by
  have hst : Est A E2 := est2
  refine Ct.ofW (by decide) (Nat.le_of_ble_eq_true rfl) ?_
  intro p e s m args below meth c Q H locs ls S hK hE hP hS hl hret
  have hx := S.1
  have hb := S.2.1
  have hown := S.2.2.2.1
  have ht := S.2.2.2.2
  have hl : lv_has ls 2 [(0, .ref (ad o)), (1, .int p1)] := hl
  unfold f_X10_source at hf
  refine lv_iload_n hx hb dX10_source_0 rfl (lv_at hl 1 rfl) ?_
  refine lv_i2l (v := (Int32.toInt64 p1)) hx hb dX10_source_1 rfl ?_
  refine lv_lconst (v := 0) hx hb dX10_source_2 (by decide) ?_
  refine lv_ldc2 (v := 65535) hx hb hown (ht _ k_1570) dX10_source_3 ?_
  refine r_callS (As := [.long (Int32.toInt64 p1), .long 0, .long 65535]) (rest := []) S hK hE hst hP hS (cw_X10_74 ht ⟨Nat.le_of_ble_eq_true rfl, Nat.le_of_ble_eq_true rfl⟩) rfl hl.1 rfl (Nat.le_of_ble_eq_true rfl) dX10_source_6 z2 (fun _ _ h => c_X10_isIn hG  h) hf (fun x1 M H locs hP hS bx1 hf => ?_)
  refine r_if_ne (tgt := 15) S dX10_source_9 (by decide) hf (fun hf => ?_) (fun hf => ?_)
  · refine lv_aload_n hx hb dX10_source_15 rfl (lv_at hl 0 rfl) ?_
    refine gf_X10_7 S hK hP h0 dX10_source_16 hf (fun x2 hx2 hf => ?_)
    refine lv_bipush (v := 6) hx hb dX10_source_19 (by decide) ?_
    refine r_iald S hK hP hx2 dX10_source_21 hf (fun x3 hf => ?_)
    refine lv_bipush (v := 8) hx hb dX10_source_22 (by decide) ?_
    refine r_icmp_ne (tgt := 30) S dX10_source_24 (by decide) hf (fun hf => ?_) (fun hf => ?_)
    · refine lv_aload_n hx hb dX10_source_30 rfl (lv_at hl 0 rfl) ?_
      refine gf_X10_7 S hK hP h0 dX10_source_31 hf (fun x4 hx4 hf => ?_)
      refine lv_sipush (v := 490) hx hb dX10_source_34 (by decide) ?_
      refine lv_aload_n hx hb dX10_source_37 rfl (lv_at hl 0 rfl) ?_
      refine gf_X10_7 S hK hP h0 dX10_source_38 hf (fun x5 hx5 hf => ?_)
      refine lv_bipush (v := 6) hx hb dX10_source_41 (by decide) ?_
      refine r_iald S hK hP hx5 dX10_source_43 hf (fun x6 hf => ?_)
      refine lv_iadd hx hb dX10_source_44 ?_
      refine lv_iload_n hx hb dX10_source_45 rfl (lv_at hl 1 rfl) ?_
      refine r_iast S hK hG hP hS hx4 dX10_source_46 hf (fun M H locs hP hS hf => ?_)
      refine lv_aload_n hx hb dX10_source_47 rfl (lv_at hl 0 rfl) ?_
      refine gf_X10_7 S hK hP h0 dX10_source_48 hf (fun x7 hx7 hf => ?_)
      refine lv_bipush (v := 6) hx hb dX10_source_51 (by decide) ?_
      refine lv_dup2_11 hx hb dX10_source_53 rfl rfl ?_
      refine r_iald S hK hP hx7 dX10_source_54 hf (fun x8 hf => ?_)
      refine lv_iconst (v := 1) hx hb dX10_source_55 (by decide) ?_
      refine lv_iadd hx hb dX10_source_56 ?_
      refine r_iast S hK hG hP hS hx7 dX10_source_57 hf (fun M H locs hP hS hf => ?_)
      refine lv_aload_n hx hb dX10_source_58 rfl (lv_at hl 0 rfl) ?_
      refine gf_X10_7 S hK hP h0 dX10_source_59 hf (fun x9 hx9 hf => ?_)
      refine lv_bipush (v := 6) hx hb dX10_source_62 (by decide) ?_
      refine r_iald S hK hP hx9 dX10_source_64 hf (fun x10 hf => ?_)
      refine lv_iconst (v := 1) hx hb dX10_source_65 (by decide) ?_
      refine lv_isub hx hb dX10_source_66 ?_
      exact hret _ _ _ _ _ _ dX10_source_67 hP hS rfl hf
    · refine lv_ldc (v := (-1000000003)) hx hb hown (ht _ k_1234) dX10_source_27 ?_
      exact hret _ _ _ _ _ _ dX10_source_29 hP hS rfl hf
  · refine lv_ldc (v := (-1000000001)) hx hb hown (ht _ k_1232) dX10_source_12 ?_
    exact hret _ _ _ _ _ _ dX10_source_14 hP hS rfl hf
def f_X10_leftBy (o : Nat) (p1 : Int32) (p2 : Int32) (p3 : Int32) (M : Mem) : Option (Int32 × Mem) :=
  it2 (fun rc3 (v1 : Int32) (v2 : Int32) M =>
    if v2 < 8 then
      jn (fun (v4 : Int32) (M : Mem) =>
        jn (fun (v6 : Int32) (M : Mem) =>
          vv (v1 ||| v6) fun x8 =>
          rc3 x8 (v2 + 1) M
        ) fun k7 =>
        if v4 = 0 then
          k7 0 M
        else
          k7 ((1 : Int32) <<< (v2 &&& 31)) M
      ) fun k5 =>
      if ((p1 >>> (v2 &&& 31)) &&& 1) = 1 then
        vv (grf G2 o 0) fun x9 =>
        ld M x9 (490 + p2) 3510 fun x10 =>
        if ((x10 >>> ((2 * v2) &&& 31)) &&& 3) = p3 then
          k5 1 M
        else
          k5 0 M
      else
        k5 0 M
    else
      some (v1, M)
  ) fuel 0 0 M
def rm_X10_leftBy : Room := { frames := 0, cells := 0, slots := 0, locals := 0 }
set_option maxHeartbeats 4000000 in
set_option maxRecDepth 100000 in
theorem c_X10_leftBy {l : Launch} {D : va_G} {K : Ks} {ad : Nat → Nat} {A : Nat → Prop} (hG : Gok G2 ad A) {o : Nat} {p1 : Int32} {p2 : Int32} {p3 : Int32} (h0 : gcl G2 o = 10) {M : Mem} {r : Int32} {M' : Mem} (hf : f_X10_leftBy o p1 p2 p3 M = some (r, M')) : Ct l E2 D K G2 ad A yX10_leftBy (ws_of yX10_leftBy cX10_leftBy 7 (some .int)) rm_X10_leftBy .int [.ref (ad o), .int p1, .int p2, .int p3] M r M' := by
  have hst : Est A E2 := est2
  refine Ct.ofW (by decide) (Nat.le_of_ble_eq_true rfl) ?_
  intro p e s m args below meth c Q H locs ls S hK hE hP hS hl hret
  have hx := S.1
  have hb := S.2.1
  have hown := S.2.2.2.1
  have ht := S.2.2.2.2
  have hl : lv_has ls 7 [(0, .ref (ad o)), (1, .int p1), (2, .int p2), (3, .int p3)] := hl
  unfold f_X10_leftBy at hf
  refine lv_iconst (v := 0) hx hb dX10_leftBy_0 (by decide) ?_
  refine lv_istore (lv' := [(4, .int 0), (0, .ref (ad o)), (1, .int p1), (2, .int p2), (3, .int p3)]) hx hb dX10_leftBy_1 hl (by decide) rfl (fun ls hl => ?_)
  refine lv_iconst (v := 0) hx hb dX10_leftBy_3 (by decide) ?_
  refine lv_istore (lv' := [(5, .int 0), (4, .int 0), (0, .ref (ad o)), (1, .int p1), (2, .int p2), (3, .int p3)]) hx hb dX10_leftBy_4 hl (by decide) rfl (fun ls hl => ?_)
  obtain ⟨F3, hF3, hf⟩ := it2_g hf
  have L3 : ∀ (n : Nat) (v1 : Int32) (v2 : Int32) (M : Mem) (H : Heap) (locs : List Loc) (ls : Array Slot), lv_has ls 7 [(0, .ref (ad o)), (1, .int p1), (2, .int p2), (3, .int p3), (4, .int v1), (5, .int v2)] → va_P D classes (gws K G2 ad M) H → va_S A s.heap H locs → it2 F3 n v1 v2 M = some (r, M') → W p l e rm_X10_leftBy s m args below meth c H locs 0 0 Q (F0 m 6 ls []) := by
    intro n
    induction n with
    | zero => intro v1 v2 M H locs ls hl hP hS hf; exact nomatch hf
    | succ n ih3 =>
      intro v1 v2 M H locs ls hl hP hS hf
      obtain ⟨rc3, hrc3, hf⟩ := it2_w hf
      rw [← hrc3] at ih3
      rw [hF3] at hf
      refine lv_iload hx hb dX10_leftBy_6 (lv_at hl 5 rfl) ?_
      refine lv_bipush (v := 8) hx hb dX10_leftBy_8 (by decide) ?_
      refine r_icmp_ge (tgt := 75) S dX10_leftBy_10 (by decide) hf (fun hf => ?_) (fun hf => ?_)
      · refine lv_iload hx hb dX10_leftBy_75 (lv_at hl 4 rfl) ?_
        exact hret _ _ _ _ _ _ dX10_leftBy_77 hP hS rfl hf
      · refine lv_iload_n hx hb dX10_leftBy_13 rfl (lv_at hl 1 rfl) ?_
        refine lv_iload hx hb dX10_leftBy_14 (lv_at hl 5 rfl) ?_
        refine lv_ishr hx hb dX10_leftBy_16 ?_
        refine lv_iconst (v := 1) hx hb dX10_leftBy_17 (by decide) ?_
        refine lv_iand hx hb dX10_leftBy_18 ?_
        refine lv_iconst (v := 1) hx hb dX10_leftBy_19 (by decide) ?_
        obtain ⟨k5, hk5, hf⟩ := jn_w hf
        have J5 : ∀ (v4 : Int32) (M : Mem) (H : Heap) (locs : List Loc) (ls : Array Slot), lv_has ls 7 [(0, .ref (ad o)), (1, .int p1), (2, .int p2), (3, .int p3), (4, .int v1), (5, .int v2)] → va_P D classes (gws K G2 ad M) H → va_S A s.heap H locs → k5 v4 M = some (r, M') → W p l e rm_X10_leftBy s m args below meth c H locs 0 0 Q (F0 m 49 ls [.int v4]) := by
          intro v4 M H locs ls hl hP hS hf
          rw [hk5] at hf
          refine lv_istore (lv' := [(6, .int v4), (0, .ref (ad o)), (1, .int p1), (2, .int p2), (3, .int p3), (4, .int v1), (5, .int v2)]) hx hb dX10_leftBy_49 hl (by decide) rfl (fun ls hl => ?_)
          refine lv_iload hx hb dX10_leftBy_51 (lv_at hl 5 rfl) ?_
          refine lv_iload hx hb dX10_leftBy_53 (lv_at hl 0 rfl) ?_
          obtain ⟨k7, hk7, hf⟩ := jn_w hf
          have J7 : ∀ (v6 : Int32) (M : Mem) (H : Heap) (locs : List Loc) (ls : Array Slot), lv_has ls 7 [(0, .ref (ad o)), (1, .int p1), (2, .int p2), (3, .int p3), (5, .int v2)] → va_P D classes (gws K G2 ad M) H → va_S A s.heap H locs → k7 v6 M = some (r, M') → W p l e rm_X10_leftBy s m args below meth c H locs 0 0 Q (F0 m 66 ls [.int v6, .int v1]) := by
            intro v6 M H locs ls hl hP hS hf
            rw [hk7] at hf
            refine lv_ior hx hb dX10_leftBy_66 ?_
            refine r_vi hf (fun x8 hf => ?_)
            refine lv_istore (lv' := [(4, .int x8), (0, .ref (ad o)), (1, .int p1), (2, .int p2), (3, .int p3), (5, .int v2)]) hx hb dX10_leftBy_67 hl (by decide) rfl (fun ls hl => ?_)
            refine lv_iinc (v := (v2 + 1)) (lv' := [(5, .int (v2 + 1)), (4, .int x8), (0, .ref (ad o)), (1, .int p1), (2, .int p2), (3, .int p3)]) hx hb dX10_leftBy_69 hl (k := 5) rfl rfl (by decide) rfl (fun ls hl => ?_)
            refine lv_goto (tgt := 6) hx hb dX10_leftBy_72 (by decide) ?_
            exact ih3 x8 (v2 + 1) M H locs ls (lv_sub hl [2, 3, 4, 5, 1, 0] rfl) hP hS hf
          refine r_if_eq (tgt := 65) S dX10_leftBy_55 (by decide) hf (fun hf => ?_) (fun hf => ?_)
          · refine lv_iconst (v := 0) hx hb dX10_leftBy_65 (by decide) ?_
            exact J7 0 M H locs ls (lv_sub hl [1, 2, 3, 4, 6] rfl) hP hS hf
          · refine lv_iconst (v := 1) hx hb dX10_leftBy_58 (by decide) ?_
            refine lv_iload hx hb dX10_leftBy_59 (lv_at hl 6 rfl) ?_
            refine lv_ishl hx hb dX10_leftBy_61 ?_
            refine lv_goto (tgt := 66) hx hb dX10_leftBy_62 (by decide) ?_
            exact J7 ((1 : Int32) <<< (v2 &&& 31)) M H locs ls (lv_sub hl [1, 2, 3, 4, 6] rfl) hP hS hf
        refine r_icmp_ne (tgt := 48) S dX10_leftBy_20 (by decide) hf (fun hf => ?_) (fun hf => ?_)
        · refine lv_iconst (v := 0) hx hb dX10_leftBy_48 (by decide) ?_
          exact J5 0 M H locs ls (lv_sub hl [0, 1, 2, 3, 4, 5] rfl) hP hS hf
        · refine lv_aload_n hx hb dX10_leftBy_23 rfl (lv_at hl 0 rfl) ?_
          refine gf_X10_7 S hK hP h0 dX10_leftBy_24 hf (fun x9 hx9 hf => ?_)
          refine lv_sipush (v := 490) hx hb dX10_leftBy_27 (by decide) ?_
          refine lv_iload_n hx hb dX10_leftBy_30 rfl (lv_at hl 2 rfl) ?_
          refine lv_iadd hx hb dX10_leftBy_31 ?_
          refine r_iald S hK hP hx9 dX10_leftBy_32 hf (fun x10 hf => ?_)
          refine lv_iconst (v := 2) hx hb dX10_leftBy_33 (by decide) ?_
          refine lv_iload hx hb dX10_leftBy_34 (lv_at hl 5 rfl) ?_
          refine lv_imul hx hb dX10_leftBy_36 ?_
          refine lv_ishr hx hb dX10_leftBy_37 ?_
          refine lv_iconst (v := 3) hx hb dX10_leftBy_38 (by decide) ?_
          refine lv_iand hx hb dX10_leftBy_39 ?_
          refine lv_iload_n hx hb dX10_leftBy_40 rfl (lv_at hl 3 rfl) ?_
          refine r_icmp_ne (tgt := 48) S dX10_leftBy_41 (by decide) hf (fun hf => ?_) (fun hf => ?_)
          · refine lv_iconst (v := 0) hx hb dX10_leftBy_48 (by decide) ?_
            exact J5 0 M H locs ls (lv_sub hl [0, 1, 2, 3, 4, 5] rfl) hP hS hf
          · refine lv_iconst (v := 1) hx hb dX10_leftBy_44 (by decide) ?_
            refine lv_goto (tgt := 49) hx hb dX10_leftBy_45 (by decide) ?_
            exact J5 1 M H locs ls (lv_sub hl [0, 1, 2, 3, 4, 5] rfl) hP hS hf
  exact L3 _ 0 0 M H locs ls (lv_sub hl [2, 3, 4, 5, 1, 0] rfl) hP hS hf
theorem cw_X10_352 {R : Room} {s : State} {args : Array Value} (ht : ∀ w ∈ Tw, w.before args s = true) (hR : rm_X10_leftBy.frames + 1 ≤ R.frames ∧ 8 + (7 + 11) + rm_X10_leftBy.locals ≤ R.locals) : CallW R s args RX10 RX10 352 yX10_leftBy cX10_leftBy 7 (some .int) (ws_of yX10_leftBy cX10_leftBy 7 (some .int)) rm_X10_leftBy 0 0 3 := cw_V 3 ht k_1576 k_1578 k_59 k_73 k_1579 (by decide +kernel) rfl rfl hR
def f_X10_next (o : Nat) (p1 : Int32) (M : Mem) : Option (Int32 × Mem) :=
  bd (f_X10_isIn (Int32.toInt64 p1) 1 255 M) fun x1 M =>
  if x1 = 0 then
    some ((-1000000001), M)
  else
    it3 (fun rc5 (v2 : Int32) (v3 : Int32) (v4 : Int32) M =>
      vv (grf G2 o 0) fun x6 =>
      ld M x6 6 3510 fun x7 =>
      if v4 < x7 then
        it2 (fun rc11 (v9 : Int32) (v10 : Int32) M =>
          if v10 < 4 then
            bd (f_X10_leftBy o p1 v4 v10 M) fun x12 M =>
            bd (f_X10_ones x12 M) fun x13 M =>
            if v9 < x13 then
              rc11 x13 (v10 + 1) M
            else
              rc11 v9 (v10 + 1) M
          else
            if v2 < 0 then
              rc5 v4 v9 (v4 + 1) M
            else
              if v9 < v3 then
                rc5 v4 v9 (v4 + 1) M
              else
                rc5 v2 v3 (v4 + 1) M
        ) fuel 0 0 M
      else
        bd (f_X10_orNone v2 M) fun x8 M =>
        some (x8, M)
    ) fuel (-1) 0 0 M
def rm_X10_next : Room := { frames := 1, cells := 0, slots := 0, locals := 26 }
set_option maxHeartbeats 4000000 in
set_option maxRecDepth 100000 in
theorem c_X10_next {l : Launch} {D : va_G} {K : Ks} {ad : Nat → Nat} {A : Nat → Prop} (hG : Gok G2 ad A) {o : Nat} {p1 : Int32} (h0 : gcl G2 o = 10) {M : Mem} {r : Int32} {M' : Mem} (hf : f_X10_next o p1 M = some (r, M')) : Ct l E2 D K G2 ad A yX10_next (ws_of yX10_next cX10_next 8 (some .int)) rm_X10_next .int [.ref (ad o), .int p1] M r M' := by
  have hst : Est A E2 := est2
  refine Ct.ofW (by decide) (Nat.le_of_ble_eq_true rfl) ?_
  intro p e s m args below meth c Q H locs ls S hK hE hP hS hl hret
  have hx := S.1
  have hb := S.2.1
  have hown := S.2.2.2.1
  have ht := S.2.2.2.2
  have hl : lv_has ls 8 [(0, .ref (ad o)), (1, .int p1)] := hl
  unfold f_X10_next at hf
  refine lv_iload_n hx hb dX10_next_0 rfl (lv_at hl 1 rfl) ?_
  refine lv_i2l (v := (Int32.toInt64 p1)) hx hb dX10_next_1 rfl ?_
  refine lv_lconst (v := 1) hx hb dX10_next_2 (by decide) ?_
  refine lv_ldc2 (v := 255) hx hb hown (ht _ k_1575) dX10_next_3 ?_
  refine r_callS (As := [.long (Int32.toInt64 p1), .long 1, .long 255]) (rest := []) S hK hE hst hP hS (cw_X10_74 ht ⟨Nat.le_of_ble_eq_true rfl, Nat.le_of_ble_eq_true rfl⟩) rfl hl.1 rfl (Nat.le_of_ble_eq_true rfl) dX10_next_6 z2 (fun _ _ h => c_X10_isIn hG  h) hf (fun x1 M H locs hP hS bx1 hf => ?_)
  refine r_if_ne (tgt := 15) S dX10_next_9 (by decide) hf (fun hf => ?_) (fun hf => ?_)
  · refine lv_iconst (v := (-1)) hx hb dX10_next_15 (by decide) ?_
    refine lv_istore_n (lv' := [(2, .int (-1)), (0, .ref (ad o)), (1, .int p1)]) hx hb dX10_next_16 rfl hl (by decide) rfl (fun ls hl => ?_)
    refine lv_iconst (v := 0) hx hb dX10_next_17 (by decide) ?_
    refine lv_istore_n (lv' := [(3, .int 0), (2, .int (-1)), (0, .ref (ad o)), (1, .int p1)]) hx hb dX10_next_18 rfl hl (by decide) rfl (fun ls hl => ?_)
    refine lv_iconst (v := 0) hx hb dX10_next_19 (by decide) ?_
    refine lv_istore (lv' := [(4, .int 0), (3, .int 0), (2, .int (-1)), (0, .ref (ad o)), (1, .int p1)]) hx hb dX10_next_20 hl (by decide) rfl (fun ls hl => ?_)
    obtain ⟨F5, hF5, hf⟩ := it3_g hf
    have L5 : ∀ (n : Nat) (v2 : Int32) (v3 : Int32) (v4 : Int32) (M : Mem) (H : Heap) (locs : List Loc) (ls : Array Slot), lv_has ls 8 [(0, .ref (ad o)), (1, .int p1), (2, .int v2), (3, .int v3), (4, .int v4)] → va_P D classes (gws K G2 ad M) H → va_S A s.heap H locs → it3 F5 n v2 v3 v4 M = some (r, M') → W p l e rm_X10_next s m args below meth c H locs 0 0 Q (F0 m 22 ls []) := by
      intro n
      induction n with
      | zero => intro v2 v3 v4 M H locs ls hl hP hS hf; exact nomatch hf
      | succ n ih5 =>
        intro v2 v3 v4 M H locs ls hl hP hS hf
        obtain ⟨rc5, hrc5, hf⟩ := it3_w hf
        rw [← hrc5] at ih5
        rw [hF5] at hf
        refine lv_iload hx hb dX10_next_22 (lv_at hl 4 rfl) ?_
        refine lv_aload_n hx hb dX10_next_24 rfl (lv_at hl 0 rfl) ?_
        refine gf_X10_7 S hK hP h0 dX10_next_25 hf (fun x6 hx6 hf => ?_)
        refine lv_bipush (v := 6) hx hb dX10_next_28 (by decide) ?_
        refine r_iald S hK hP hx6 dX10_next_30 hf (fun x7 hf => ?_)
        refine r_icmp_ge (tgt := 104) S dX10_next_31 (by decide) hf (fun hf => ?_) (fun hf => ?_)
        · refine lv_iload_n hx hb dX10_next_104 rfl (lv_at hl 2 rfl) ?_
          refine r_callS (As := [.int v2]) (rest := []) S hK hE hst hP hS (cw_X10_141 ht ⟨Nat.le_of_ble_eq_true rfl, Nat.le_of_ble_eq_true rfl⟩) rfl hl.1 rfl (Nat.le_of_ble_eq_true rfl) dX10_next_105 z2 (fun _ _ h => c_X10_orNone hG  h) hf (fun x8 M H locs hP hS bx8 hf => ?_)
          exact hret _ _ _ _ _ _ dX10_next_108 hP hS rfl hf
        · refine lv_iconst (v := 0) hx hb dX10_next_34 (by decide) ?_
          refine lv_istore (lv' := [(5, .int 0), (0, .ref (ad o)), (1, .int p1), (2, .int v2), (3, .int v3), (4, .int v4)]) hx hb dX10_next_35 hl (by decide) rfl (fun ls hl => ?_)
          refine lv_iconst (v := 0) hx hb dX10_next_37 (by decide) ?_
          refine lv_istore (lv' := [(6, .int 0), (5, .int 0), (0, .ref (ad o)), (1, .int p1), (2, .int v2), (3, .int v3), (4, .int v4)]) hx hb dX10_next_38 hl (by decide) rfl (fun ls hl => ?_)
          obtain ⟨F11, hF11, hf⟩ := it2_g hf
          have L11 : ∀ (n : Nat) (v9 : Int32) (v10 : Int32) (M : Mem) (H : Heap) (locs : List Loc) (ls : Array Slot), lv_has ls 8 [(0, .ref (ad o)), (1, .int p1), (2, .int v2), (3, .int v3), (4, .int v4), (5, .int v9), (6, .int v10)] → va_P D classes (gws K G2 ad M) H → va_S A s.heap H locs → it2 F11 n v9 v10 M = some (r, M') → W p l e rm_X10_next s m args below meth c H locs 0 0 Q (F0 m 40 ls []) := by
            intro n
            induction n with
            | zero => intro v9 v10 M H locs ls hl hP hS hf; exact nomatch hf
            | succ n ih11 =>
              intro v9 v10 M H locs ls hl hP hS hf
              obtain ⟨rc11, hrc11, hf⟩ := it2_w hf
              rw [← hrc11] at ih11
              rw [hF11] at hf
              refine lv_iload hx hb dX10_next_40 (lv_at hl 6 rfl) ?_
              refine lv_iconst (v := 4) hx hb dX10_next_42 (by decide) ?_
              refine r_icmp_ge (tgt := 82) S dX10_next_43 (by decide) hf (fun hf => ?_) (fun hf => ?_)
              · refine lv_iload_n hx hb dX10_next_82 rfl (lv_at hl 2 rfl) ?_
                refine r_if_lt (tgt := 92) S dX10_next_83 (by decide) hf (fun hf => ?_) (fun hf => ?_)
                · refine lv_iload hx hb dX10_next_92 (lv_at hl 4 rfl) ?_
                  refine lv_istore_n (lv' := [(2, .int v4), (0, .ref (ad o)), (1, .int p1), (3, .int v3), (4, .int v4), (5, .int v9), (6, .int v10)]) hx hb dX10_next_94 rfl hl (by decide) rfl (fun ls hl => ?_)
                  refine lv_iload hx hb dX10_next_95 (lv_at hl 5 rfl) ?_
                  refine lv_istore_n (lv' := [(3, .int v9), (2, .int v4), (0, .ref (ad o)), (1, .int p1), (4, .int v4), (5, .int v9), (6, .int v10)]) hx hb dX10_next_97 rfl hl (by decide) rfl (fun ls hl => ?_)
                  refine lv_iinc (v := (v4 + 1)) (lv' := [(4, .int (v4 + 1)), (3, .int v9), (2, .int v4), (0, .ref (ad o)), (1, .int p1), (5, .int v9), (6, .int v10)]) hx hb dX10_next_98 hl (k := 4) rfl rfl (by decide) rfl (fun ls hl => ?_)
                  refine lv_goto (tgt := 22) hx hb dX10_next_101 (by decide) ?_
                  exact ih5 v4 v9 (v4 + 1) M H locs ls (lv_sub hl [3, 4, 2, 1, 0] rfl) hP hS hf
                · refine lv_iload hx hb dX10_next_86 (lv_at hl 5 rfl) ?_
                  refine lv_iload_n hx hb dX10_next_88 rfl (lv_at hl 3 rfl) ?_
                  refine r_icmp_ge (tgt := 98) S dX10_next_89 (by decide) hf (fun hf => ?_) (fun hf => ?_)
                  · refine lv_iinc (v := (v4 + 1)) (lv' := [(4, .int (v4 + 1)), (0, .ref (ad o)), (1, .int p1), (2, .int v2), (3, .int v3), (5, .int v9), (6, .int v10)]) hx hb dX10_next_98 hl (k := 4) rfl rfl (by decide) rfl (fun ls hl => ?_)
                    refine lv_goto (tgt := 22) hx hb dX10_next_101 (by decide) ?_
                    exact ih5 v2 v3 (v4 + 1) M H locs ls (lv_sub hl [1, 2, 3, 4, 0] rfl) hP hS hf
                  · refine lv_iload hx hb dX10_next_92 (lv_at hl 4 rfl) ?_
                    refine lv_istore_n (lv' := [(2, .int v4), (0, .ref (ad o)), (1, .int p1), (3, .int v3), (4, .int v4), (5, .int v9), (6, .int v10)]) hx hb dX10_next_94 rfl hl (by decide) rfl (fun ls hl => ?_)
                    refine lv_iload hx hb dX10_next_95 (lv_at hl 5 rfl) ?_
                    refine lv_istore_n (lv' := [(3, .int v9), (2, .int v4), (0, .ref (ad o)), (1, .int p1), (4, .int v4), (5, .int v9), (6, .int v10)]) hx hb dX10_next_97 rfl hl (by decide) rfl (fun ls hl => ?_)
                    refine lv_iinc (v := (v4 + 1)) (lv' := [(4, .int (v4 + 1)), (3, .int v9), (2, .int v4), (0, .ref (ad o)), (1, .int p1), (5, .int v9), (6, .int v10)]) hx hb dX10_next_98 hl (k := 4) rfl rfl (by decide) rfl (fun ls hl => ?_)
                    refine lv_goto (tgt := 22) hx hb dX10_next_101 (by decide) ?_
                    exact ih5 v4 v9 (v4 + 1) M H locs ls (lv_sub hl [3, 4, 2, 1, 0] rfl) hP hS hf
              · refine lv_aload_n hx hb dX10_next_46 rfl (lv_at hl 0 rfl) ?_
                refine lv_iload_n hx hb dX10_next_47 rfl (lv_at hl 1 rfl) ?_
                refine lv_iload hx hb dX10_next_48 (lv_at hl 4 rfl) ?_
                refine lv_iload hx hb dX10_next_50 (lv_at hl 6 rfl) ?_
                refine r_callV (As := [.int p1, .int v4, .int v10]) (rest := []) S hK hE hst hP hS h0 (by decide) rfl (cw_X10_352 ht ⟨Nat.le_of_ble_eq_true rfl, Nat.le_of_ble_eq_true rfl⟩) rfl hl.1 rfl (Nat.le_of_ble_eq_true rfl) dX10_next_52 z2 (fun _ _ h => c_X10_leftBy hG  h0 h) hf (fun x12 M H locs hP hS bx12 hf => ?_)
                refine r_callS (As := [.int x12]) (rest := []) S hK hE hst hP hS (cw_X10_340 ht ⟨Nat.le_of_ble_eq_true rfl, Nat.le_of_ble_eq_true rfl⟩) rfl hl.1 rfl (Nat.le_of_ble_eq_true rfl) dX10_next_55 z2 (fun _ _ h => c_X10_ones hG  h) hf (fun x13 M H locs hP hS bx13 hf => ?_)
                refine lv_istore (lv' := [(7, .int x13), (0, .ref (ad o)), (1, .int p1), (2, .int v2), (3, .int v3), (4, .int v4), (5, .int v9), (6, .int v10)]) hx hb dX10_next_58 hl (by decide) rfl (fun ls hl => ?_)
                refine lv_iload hx hb dX10_next_60 (lv_at hl 0 rfl) ?_
                refine lv_iload hx hb dX10_next_62 (lv_at hl 6 rfl) ?_
                refine r_icmp_le (tgt := 72) S dX10_next_64 (by decide) hf (fun hf => ?_) (fun hf => ?_)
                · refine lv_iload hx hb dX10_next_72 (lv_at hl 6 rfl) ?_
                  refine lv_istore (lv' := [(5, .int v9), (7, .int x13), (0, .ref (ad o)), (1, .int p1), (2, .int v2), (3, .int v3), (4, .int v4), (6, .int v10)]) hx hb dX10_next_74 hl (by decide) rfl (fun ls hl => ?_)
                  refine lv_iinc (v := (v10 + 1)) (lv' := [(6, .int (v10 + 1)), (5, .int v9), (7, .int x13), (0, .ref (ad o)), (1, .int p1), (2, .int v2), (3, .int v3), (4, .int v4)]) hx hb dX10_next_76 hl (k := 7) rfl rfl (by decide) rfl (fun ls hl => ?_)
                  refine lv_goto (tgt := 40) hx hb dX10_next_79 (by decide) ?_
                  exact ih11 v9 (v10 + 1) M H locs ls (lv_sub hl [3, 4, 5, 6, 7, 1, 0] rfl) hP hS hf
                · refine lv_iload hx hb dX10_next_67 (lv_at hl 0 rfl) ?_
                  refine lv_goto (tgt := 74) hx hb dX10_next_69 (by decide) ?_
                  refine lv_istore (lv' := [(5, .int x13), (7, .int x13), (0, .ref (ad o)), (1, .int p1), (2, .int v2), (3, .int v3), (4, .int v4), (6, .int v10)]) hx hb dX10_next_74 hl (by decide) rfl (fun ls hl => ?_)
                  refine lv_iinc (v := (v10 + 1)) (lv' := [(6, .int (v10 + 1)), (5, .int x13), (7, .int x13), (0, .ref (ad o)), (1, .int p1), (2, .int v2), (3, .int v3), (4, .int v4)]) hx hb dX10_next_76 hl (k := 7) rfl rfl (by decide) rfl (fun ls hl => ?_)
                  refine lv_goto (tgt := 40) hx hb dX10_next_79 (by decide) ?_
                  exact ih11 x13 (v10 + 1) M H locs ls (lv_sub hl [3, 4, 5, 6, 7, 1, 0] rfl) hP hS hf
          exact L11 _ 0 0 M H locs ls (lv_sub hl [2, 3, 4, 5, 6, 1, 0] rfl) hP hS hf
    exact L5 _ (-1) 0 0 M H locs ls (lv_sub hl [3, 4, 2, 1, 0] rfl) hP hS hf
  · refine lv_ldc (v := (-1000000001)) hx hb hown (ht _ k_1232) dX10_next_12 ?_
    exact hret _ _ _ _ _ _ dX10_next_14 hP hS rfl hf
def f_X10_heard (o : Nat) (p1 : Int32) (p2 : Int32) (p3 : Int32) (M : Mem) : Option (Int32 × Mem) :=
  bd (f_X10_isIn (Int32.toInt64 p1) 0 255 M) fun x1 M =>
  if x1 = 0 then
    some ((-1000000001), M)
  else
    vv (grf G2 o 0) fun x2 =>
    ld M x2 6 3510 fun x3 =>
    bd (f_X10_isIn (Int32.toInt64 p2) 0 (Int32.toInt64 (x3 - 1)) M) fun x4 M =>
    if x4 = 0 then
      some ((-1000000001), M)
    else
      bd (f_X10_isIn (Int32.toInt64 p3) 0 3 M) fun x5 M =>
      if x5 = 0 then
        some ((-1000000001), M)
      else
        bd (f_X10_leftBy o p1 p2 p3 M) fun x6 M =>
        some (x6, M)
def rm_X10_heard : Room := { frames := 1, cells := 0, slots := 0, locals := 26 }
set_option maxHeartbeats 4000000 in
set_option maxRecDepth 100000 in
theorem c_X10_heard {l : Launch} {D : va_G} {K : Ks} {ad : Nat → Nat} {A : Nat → Prop} (hG : Gok G2 ad A) {o : Nat} {p1 : Int32} {p2 : Int32} {p3 : Int32} (h0 : gcl G2 o = 10) {M : Mem} {r : Int32} {M' : Mem} (hf : f_X10_heard o p1 p2 p3 M = some (r, M')) : Ct l E2 D K G2 ad A yX10_heard (ws_of yX10_heard cX10_heard 4 (some .int)) rm_X10_heard .int [.ref (ad o), .int p1, .int p2, .int p3] M r M' := by
  have hst : Est A E2 := est2
  refine Ct.ofW (by decide) (Nat.le_of_ble_eq_true rfl) ?_
  intro p e s m args below meth c Q H locs ls S hK hE hP hS hl hret
  have hx := S.1
  have hb := S.2.1
  have hown := S.2.2.2.1
  have ht := S.2.2.2.2
  have hl : lv_has ls 4 [(0, .ref (ad o)), (1, .int p1), (2, .int p2), (3, .int p3)] := hl
  unfold f_X10_heard at hf
  refine lv_iload_n hx hb dX10_heard_0 rfl (lv_at hl 1 rfl) ?_
  refine lv_i2l (v := (Int32.toInt64 p1)) hx hb dX10_heard_1 rfl ?_
  refine lv_lconst (v := 0) hx hb dX10_heard_2 (by decide) ?_
  refine lv_ldc2 (v := 255) hx hb hown (ht _ k_1575) dX10_heard_3 ?_
  refine r_callS (As := [.long (Int32.toInt64 p1), .long 0, .long 255]) (rest := []) S hK hE hst hP hS (cw_X10_74 ht ⟨Nat.le_of_ble_eq_true rfl, Nat.le_of_ble_eq_true rfl⟩) rfl hl.1 rfl (Nat.le_of_ble_eq_true rfl) dX10_heard_6 z2 (fun _ _ h => c_X10_isIn hG  h) hf (fun x1 M H locs hP hS bx1 hf => ?_)
  refine r_if_eq (tgt := 53) S dX10_heard_9 (by decide) hf (fun hf => ?_) (fun hf => ?_)
  · refine lv_ldc (v := (-1000000001)) hx hb hown (ht _ k_1232) dX10_heard_53 ?_
    exact hret _ _ _ _ _ _ dX10_heard_55 hP hS rfl hf
  · refine lv_iload_n hx hb dX10_heard_12 rfl (lv_at hl 2 rfl) ?_
    refine lv_i2l (v := (Int32.toInt64 p2)) hx hb dX10_heard_13 rfl ?_
    refine lv_lconst (v := 0) hx hb dX10_heard_14 (by decide) ?_
    refine lv_aload_n hx hb dX10_heard_15 rfl (lv_at hl 0 rfl) ?_
    refine gf_X10_7 S hK hP h0 dX10_heard_16 hf (fun x2 hx2 hf => ?_)
    refine lv_bipush (v := 6) hx hb dX10_heard_19 (by decide) ?_
    refine r_iald S hK hP hx2 dX10_heard_21 hf (fun x3 hf => ?_)
    refine lv_iconst (v := 1) hx hb dX10_heard_22 (by decide) ?_
    refine lv_isub hx hb dX10_heard_23 ?_
    refine lv_i2l (v := (Int32.toInt64 (x3 - 1))) hx hb dX10_heard_24 rfl ?_
    refine r_callS (As := [.long (Int32.toInt64 p2), .long 0, .long (Int32.toInt64 (x3 - 1))]) (rest := []) S hK hE hst hP hS (cw_X10_74 ht ⟨Nat.le_of_ble_eq_true rfl, Nat.le_of_ble_eq_true rfl⟩) rfl hl.1 rfl (Nat.le_of_ble_eq_true rfl) dX10_heard_25 z2 (fun _ _ h => c_X10_isIn hG  h) hf (fun x4 M H locs hP hS bx4 hf => ?_)
    refine r_if_eq (tgt := 53) S dX10_heard_28 (by decide) hf (fun hf => ?_) (fun hf => ?_)
    · refine lv_ldc (v := (-1000000001)) hx hb hown (ht _ k_1232) dX10_heard_53 ?_
      exact hret _ _ _ _ _ _ dX10_heard_55 hP hS rfl hf
    · refine lv_iload_n hx hb dX10_heard_31 rfl (lv_at hl 3 rfl) ?_
      refine lv_i2l (v := (Int32.toInt64 p3)) hx hb dX10_heard_32 rfl ?_
      refine lv_lconst (v := 0) hx hb dX10_heard_33 (by decide) ?_
      refine lv_ldc2 (v := 3) hx hb hown (ht _ k_1584) dX10_heard_34 ?_
      refine r_callS (As := [.long (Int32.toInt64 p3), .long 0, .long 3]) (rest := []) S hK hE hst hP hS (cw_X10_74 ht ⟨Nat.le_of_ble_eq_true rfl, Nat.le_of_ble_eq_true rfl⟩) rfl hl.1 rfl (Nat.le_of_ble_eq_true rfl) dX10_heard_37 z2 (fun _ _ h => c_X10_isIn hG  h) hf (fun x5 M H locs hP hS bx5 hf => ?_)
      refine r_if_eq (tgt := 53) S dX10_heard_40 (by decide) hf (fun hf => ?_) (fun hf => ?_)
      · refine lv_ldc (v := (-1000000001)) hx hb hown (ht _ k_1232) dX10_heard_53 ?_
        exact hret _ _ _ _ _ _ dX10_heard_55 hP hS rfl hf
      · refine lv_aload_n hx hb dX10_heard_43 rfl (lv_at hl 0 rfl) ?_
        refine lv_iload_n hx hb dX10_heard_44 rfl (lv_at hl 1 rfl) ?_
        refine lv_iload_n hx hb dX10_heard_45 rfl (lv_at hl 2 rfl) ?_
        refine lv_iload_n hx hb dX10_heard_46 rfl (lv_at hl 3 rfl) ?_
        refine r_callV (As := [.int p1, .int p2, .int p3]) (rest := []) S hK hE hst hP hS h0 (by decide) rfl (cw_X10_352 ht ⟨Nat.le_of_ble_eq_true rfl, Nat.le_of_ble_eq_true rfl⟩) rfl hl.1 rfl (Nat.le_of_ble_eq_true rfl) dX10_heard_47 z2 (fun _ _ h => c_X10_leftBy hG  h0 h) hf (fun x6 M H locs hP hS bx6 hf => ?_)
        refine lv_goto (tgt := 55) hx hb dX10_heard_50 (by decide) ?_
        exact hret _ _ _ _ _ _ dX10_heard_55 hP hS rfl hf
def f_X10_seed (o : Nat) (p1 : Int32) (M : Mem) : Option (Int32 × Mem) :=
  bd (f_X10_becomes o 7 p1 M) fun x1 M =>
  some (x1, M)
def rm_X10_seed : Room := { frames := 1, cells := 0, slots := 0, locals := 23 }
set_option maxHeartbeats 4000000 in
set_option maxRecDepth 100000 in
theorem c_X10_seed {l : Launch} {D : va_G} {K : Ks} {ad : Nat → Nat} {A : Nat → Prop} (hG : Gok G2 ad A) {o : Nat} {p1 : Int32} (h0 : gcl G2 o = 10) {M : Mem} {r : Int32} {M' : Mem} (hf : f_X10_seed o p1 M = some (r, M')) : Ct l E2 D K G2 ad A yX10_seed (ws_of yX10_seed cX10_seed 2 (some .int)) rm_X10_seed .int [.ref (ad o), .int p1] M r M' := by
  have hst : Est A E2 := est2
  refine Ct.ofW (by decide) (Nat.le_of_ble_eq_true rfl) ?_
  intro p e s m args below meth c Q H locs ls S hK hE hP hS hl hret
  have hx := S.1
  have hb := S.2.1
  have hown := S.2.2.2.1
  have ht := S.2.2.2.2
  have hl : lv_has ls 2 [(0, .ref (ad o)), (1, .int p1)] := hl
  unfold f_X10_seed at hf
  refine lv_aload_n hx hb dX10_seed_0 rfl (lv_at hl 0 rfl) ?_
  refine lv_bipush (v := 7) hx hb dX10_seed_1 (by decide) ?_
  refine lv_iload_n hx hb dX10_seed_3 rfl (lv_at hl 1 rfl) ?_
  refine r_callV (As := [.int 7, .int p1]) (rest := []) S hK hE hst hP hS h0 (by decide) rfl (cw_X10_155 ht ⟨Nat.le_of_ble_eq_true rfl, Nat.le_of_ble_eq_true rfl⟩) rfl hl.1 rfl (Nat.le_of_ble_eq_true rfl) dX10_seed_4 z2 (fun _ _ h => c_X10_becomes hG  h0 h) hf (fun x1 M H locs hP hS bx1 hf => ?_)
  exact hret _ _ _ _ _ _ dX10_seed_7 hP hS rfl hf
def f_X10_drawn (o : Nat) (p1 : Int32) (M : Mem) : Option (Int32 × Mem) :=
  vv (grf G2 o 0) fun x1 =>
  vv (grf G2 o 0) fun x2 =>
  ld M x2 7 3510 fun x3 =>
  st M x1 7 3510 ((x3 * 1103515245) + 12345) fun M =>
  vv (grf G2 o 0) fun x4 =>
  ld M x4 8 3510 fun x5 =>
  vv (grf G2 o 0) fun x6 =>
  ld M x6 7 3510 fun x7 =>
  dv ((2 * p1) + 1) <|
  bd (f_X10_heldIn ((x5 - p1) + (jr (js x7 8) ((2 * p1) + 1))) 9999 M) fun x8 M =>
  some (x8, M)
def rm_X10_drawn : Room := { frames := 1, cells := 0, slots := 0, locals := 21 }
set_option maxHeartbeats 4000000 in
set_option maxRecDepth 100000 in
theorem c_X10_drawn {l : Launch} {D : va_G} {K : Ks} {ad : Nat → Nat} {A : Nat → Prop} (hG : Gok G2 ad A) {o : Nat} {p1 : Int32} (h0 : gcl G2 o = 10) {M : Mem} {r : Int32} {M' : Mem} (hf : f_X10_drawn o p1 M = some (r, M')) : Ct l E2 D K G2 ad A yX10_drawn (ws_of yX10_drawn cX10_drawn 2 (some .int)) rm_X10_drawn .int [.ref (ad o), .int p1] M r M' := by
  have hst : Est A E2 := est2
  refine Ct.ofW (by decide) (Nat.le_of_ble_eq_true rfl) ?_
  intro p e s m args below meth c Q H locs ls S hK hE hP hS hl hret
  have hx := S.1
  have hb := S.2.1
  have hown := S.2.2.2.1
  have ht := S.2.2.2.2
  have hl : lv_has ls 2 [(0, .ref (ad o)), (1, .int p1)] := hl
  unfold f_X10_drawn at hf
  refine lv_aload_n hx hb dX10_drawn_0 rfl (lv_at hl 0 rfl) ?_
  refine gf_X10_7 S hK hP h0 dX10_drawn_1 hf (fun x1 hx1 hf => ?_)
  refine lv_bipush (v := 7) hx hb dX10_drawn_4 (by decide) ?_
  refine lv_aload_n hx hb dX10_drawn_6 rfl (lv_at hl 0 rfl) ?_
  refine gf_X10_7 S hK hP h0 dX10_drawn_7 hf (fun x2 hx2 hf => ?_)
  refine lv_bipush (v := 7) hx hb dX10_drawn_10 (by decide) ?_
  refine r_iald S hK hP hx2 dX10_drawn_12 hf (fun x3 hf => ?_)
  refine lv_ldcw (v := 1103515245) hx hb hown (ht _ k_1598) dX10_drawn_13 ?_
  refine lv_imul hx hb dX10_drawn_16 ?_
  refine lv_sipush (v := 12345) hx hb dX10_drawn_17 (by decide) ?_
  refine lv_iadd hx hb dX10_drawn_20 ?_
  refine r_iast S hK hG hP hS hx1 dX10_drawn_21 hf (fun M H locs hP hS hf => ?_)
  refine lv_aload_n hx hb dX10_drawn_22 rfl (lv_at hl 0 rfl) ?_
  refine gf_X10_7 S hK hP h0 dX10_drawn_23 hf (fun x4 hx4 hf => ?_)
  refine lv_bipush (v := 8) hx hb dX10_drawn_26 (by decide) ?_
  refine r_iald S hK hP hx4 dX10_drawn_28 hf (fun x5 hf => ?_)
  refine lv_iload_n hx hb dX10_drawn_29 rfl (lv_at hl 1 rfl) ?_
  refine lv_isub hx hb dX10_drawn_30 ?_
  refine lv_aload_n hx hb dX10_drawn_31 rfl (lv_at hl 0 rfl) ?_
  refine gf_X10_7 S hK hP h0 dX10_drawn_32 hf (fun x6 hx6 hf => ?_)
  refine lv_bipush (v := 7) hx hb dX10_drawn_35 (by decide) ?_
  refine r_iald S hK hP hx6 dX10_drawn_37 hf (fun x7 hf => ?_)
  refine lv_bipush (v := 8) hx hb dX10_drawn_38 (by decide) ?_
  refine lv_iushr (v := (js x7 8)) hx hb dX10_drawn_40 rfl ?_
  refine lv_iconst (v := 2) hx hb dX10_drawn_41 (by decide) ?_
  refine lv_iload_n hx hb dX10_drawn_42 rfl (lv_at hl 1 rfl) ?_
  refine lv_imul hx hb dX10_drawn_43 ?_
  refine lv_iconst (v := 1) hx hb dX10_drawn_44 (by decide) ?_
  refine lv_iadd hx hb dX10_drawn_45 ?_
  refine r_irem S dX10_drawn_46 hf (fun hf => ?_)
  refine lv_iadd hx hb dX10_drawn_47 ?_
  refine lv_sipush (v := 9999) hx hb dX10_drawn_48 (by decide) ?_
  refine r_callS (As := [.int ((x5 - p1) + (jr (js x7 8) ((2 * p1) + 1))), .int 9999]) (rest := []) S hK hE hst hP hS (cw_X10_118 ht ⟨Nat.le_of_ble_eq_true rfl, Nat.le_of_ble_eq_true rfl⟩) rfl hl.1 rfl (Nat.le_of_ble_eq_true rfl) dX10_drawn_51 z2 (fun _ _ h => c_X10_heldIn hG  h) hf (fun x8 M H locs hP hS bx8 hf => ?_)
  exact hret _ _ _ _ _ _ dX10_drawn_54 hP hS rfl hf
theorem cw_X10_360 {R : Room} {s : State} {args : Array Value} (ht : ∀ w ∈ Tw, w.before args s = true) (hR : rm_X10_drawn.frames + 1 ≤ R.frames ∧ 8 + (2 + 11) + rm_X10_drawn.locals ≤ R.locals) : CallW R s args RX10 RX10 360 yX10_drawn cX10_drawn 2 (some .int) (ws_of yX10_drawn cX10_drawn 2 (some .int)) rm_X10_drawn 0 0 1 := cw_V 1 ht k_1594 k_1596 k_60 k_73 k_1597 (by decide +kernel) rfl rfl hR
def f_X10_share (o : Nat) (p1 : Int32) (p2 : Int32) (p3 : Int32) (p4 : Int32) (M : Mem) : Option (Int32 × Mem) :=
  vv (p1 / 100) fun x1 =>
  vv (jr p1 100) fun x2 =>
  if p1 < 0 then
    some ((-1000000001), M)
  else
    bd (f_X10_isIn (Int32.toInt64 x1) 1 200 M) fun x3 M =>
    if x3 = 0 then
      some ((-1000000001), M)
    else
      bd (f_X10_isIn (Int32.toInt64 x2) 2 12 M) fun x4 M =>
      if x4 = 0 then
        some ((-1000000001), M)
      else
        bd (f_X10_isPairs p2 M) fun x5 M =>
        if x5 = 0 then
          some ((-1000000001), M)
        else
          bd (f_X10_isIn (Int32.toInt64 p3) 2 12 M) fun x6 M =>
          if x6 = 0 then
            some ((-1000000001), M)
          else
            bd (f_X10_isPlaces p4 M) fun x7 M =>
            if x7 = 0 then
              some ((-1000000001), M)
            else
              bd (f_X10_spreadFor o p2 0 M) fun x8 M =>
              it2 (fun rc11 (v9 : Int32) (v10 : Int32) M =>
                if v10 < x1 then
                  it4 (fun rc16 (v12 : Int32) (v13 : Int32) (v14 : Int32) (v15 : Int32) M =>
                    if v15 < x2 then
                      bd (f_X10_drawn o x8 M) fun x19 M =>
                      bd (f_X10_placed x19 p4 M) fun x20 M =>
                      jn (fun (v21 : Int32) (M : Mem) =>
                        if v12 < v21 then
                          rc16 v21 v21 x20 (v15 + 1) M
                        else
                          rc16 v12 v21 x20 (v15 + 1) M
                      ) fun k22 =>
                      if x20 = v14 then
                        k22 (v13 + 1) M
                      else
                        k22 1 M
                    else
                      if v12 < p3 then
                        vv (v9 + 0) fun x17 =>
                        rc11 x17 (v10 + 1) M
                      else
                        vv (v9 + 1) fun x18 =>
                        rc11 x18 (v10 + 1) M
                  ) fuel 0 0 (-1) 0 M
                else
                  some (v9, M)
              ) fuel 0 0 M
def rm_X10_share : Room := { frames := 3, cells := 0, slots := 0, locals := 70 }
set_option maxHeartbeats 4000000 in
set_option maxRecDepth 100000 in
theorem c_X10_share {l : Launch} {D : va_G} {K : Ks} {ad : Nat → Nat} {A : Nat → Prop} (hG : Gok G2 ad A) {o : Nat} {p1 : Int32} {p2 : Int32} {p3 : Int32} {p4 : Int32} (h0 : gcl G2 o = 10) {M : Mem} {r : Int32} {M' : Mem} (hf : f_X10_share o p1 p2 p3 p4 M = some (r, M')) : Ct l E2 D K G2 ad A yX10_share (ws_of yX10_share cX10_share 15 (some .int)) rm_X10_share .int [.ref (ad o), .int p1, .int p2, .int p3, .int p4] M r M' := by
  have hst : Est A E2 := est2
  refine Ct.ofW (by decide) (Nat.le_of_ble_eq_true rfl) ?_
  intro p e s m args below meth c Q H locs ls S hK hE hP hS hl hret
  have hx := S.1
  have hb := S.2.1
  have hown := S.2.2.2.1
  have ht := S.2.2.2.2
  have hl : lv_has ls 15 [(0, .ref (ad o)), (1, .int p1), (2, .int p2), (3, .int p3), (4, .int p4)] := hl
  unfold f_X10_share at hf
  refine lv_iload_n hx hb dX10_share_0 rfl (lv_at hl 1 rfl) ?_
  refine lv_bipush (v := 100) hx hb dX10_share_1 (by decide) ?_
  refine lv_idiv hx hb dX10_share_3 (by decide) ?_
  refine r_vi hf (fun x1 hf => ?_)
  refine lv_istore (lv' := [(5, .int x1), (0, .ref (ad o)), (1, .int p1), (2, .int p2), (3, .int p3), (4, .int p4)]) hx hb dX10_share_4 hl (by decide) rfl (fun ls hl => ?_)
  refine lv_iload_n hx hb dX10_share_6 rfl (lv_at hl 2 rfl) ?_
  refine lv_bipush (v := 100) hx hb dX10_share_7 (by decide) ?_
  refine lv_irem hx hb dX10_share_9 (by decide) ?_
  refine r_vi hf (fun x2 hf => ?_)
  refine lv_istore (lv' := [(6, .int x2), (5, .int x1), (0, .ref (ad o)), (1, .int p1), (2, .int p2), (3, .int p3), (4, .int p4)]) hx hb dX10_share_10 hl (by decide) rfl (fun ls hl => ?_)
  refine lv_iload_n hx hb dX10_share_12 rfl (lv_at hl 3 rfl) ?_
  refine r_if_lt (tgt := 73) S dX10_share_13 (by decide) hf (fun hf => ?_) (fun hf => ?_)
  · refine lv_ldc (v := (-1000000001)) hx hb hown (ht _ k_1232) dX10_share_73 ?_
    exact hret _ _ _ _ _ _ dX10_share_75 hP hS rfl hf
  · refine lv_iload hx hb dX10_share_16 (lv_at hl 1 rfl) ?_
    refine lv_i2l (v := (Int32.toInt64 x1)) hx hb dX10_share_18 rfl ?_
    refine lv_lconst (v := 1) hx hb dX10_share_19 (by decide) ?_
    refine lv_ldc2 (v := 200) hx hb hown (ht _ k_1593) dX10_share_20 ?_
    refine r_callS (As := [.long (Int32.toInt64 x1), .long 1, .long 200]) (rest := []) S hK hE hst hP hS (cw_X10_74 ht ⟨Nat.le_of_ble_eq_true rfl, Nat.le_of_ble_eq_true rfl⟩) rfl hl.1 rfl (Nat.le_of_ble_eq_true rfl) dX10_share_23 z2 (fun _ _ h => c_X10_isIn hG  h) hf (fun x3 M H locs hP hS bx3 hf => ?_)
    refine r_if_eq (tgt := 73) S dX10_share_26 (by decide) hf (fun hf => ?_) (fun hf => ?_)
    · refine lv_ldc (v := (-1000000001)) hx hb hown (ht _ k_1232) dX10_share_73 ?_
      exact hret _ _ _ _ _ _ dX10_share_75 hP hS rfl hf
    · refine lv_iload hx hb dX10_share_29 (lv_at hl 0 rfl) ?_
      refine lv_i2l (v := (Int32.toInt64 x2)) hx hb dX10_share_31 rfl ?_
      refine lv_ldc2 (v := 2) hx hb hown (ht _ k_1426) dX10_share_32 ?_
      refine lv_ldc2 (v := 12) hx hb hown (ht _ k_1469) dX10_share_35 ?_
      refine r_callS (As := [.long (Int32.toInt64 x2), .long 2, .long 12]) (rest := []) S hK hE hst hP hS (cw_X10_74 ht ⟨Nat.le_of_ble_eq_true rfl, Nat.le_of_ble_eq_true rfl⟩) rfl hl.1 rfl (Nat.le_of_ble_eq_true rfl) dX10_share_38 z2 (fun _ _ h => c_X10_isIn hG  h) hf (fun x4 M H locs hP hS bx4 hf => ?_)
      refine r_if_eq (tgt := 73) S dX10_share_41 (by decide) hf (fun hf => ?_) (fun hf => ?_)
      · refine lv_ldc (v := (-1000000001)) hx hb hown (ht _ k_1232) dX10_share_73 ?_
        exact hret _ _ _ _ _ _ dX10_share_75 hP hS rfl hf
      · refine lv_iload_n hx hb dX10_share_44 rfl (lv_at hl 4 rfl) ?_
        refine r_callS (As := [.int p2]) (rest := []) S hK hE hst hP hS (cw_X10_99 ht ⟨Nat.le_of_ble_eq_true rfl, Nat.le_of_ble_eq_true rfl⟩) rfl hl.1 rfl (Nat.le_of_ble_eq_true rfl) dX10_share_45 z2 (fun _ _ h => c_X10_isPairs hG  h) hf (fun x5 M H locs hP hS bx5 hf => ?_)
        refine r_if_eq (tgt := 73) S dX10_share_48 (by decide) hf (fun hf => ?_) (fun hf => ?_)
        · refine lv_ldc (v := (-1000000001)) hx hb hown (ht _ k_1232) dX10_share_73 ?_
          exact hret _ _ _ _ _ _ dX10_share_75 hP hS rfl hf
        · refine lv_iload_n hx hb dX10_share_51 rfl (lv_at hl 5 rfl) ?_
          refine lv_i2l (v := (Int32.toInt64 p3)) hx hb dX10_share_52 rfl ?_
          refine lv_ldc2 (v := 2) hx hb hown (ht _ k_1426) dX10_share_53 ?_
          refine lv_ldc2 (v := 12) hx hb hown (ht _ k_1469) dX10_share_56 ?_
          refine r_callS (As := [.long (Int32.toInt64 p3), .long 2, .long 12]) (rest := []) S hK hE hst hP hS (cw_X10_74 ht ⟨Nat.le_of_ble_eq_true rfl, Nat.le_of_ble_eq_true rfl⟩) rfl hl.1 rfl (Nat.le_of_ble_eq_true rfl) dX10_share_59 z2 (fun _ _ h => c_X10_isIn hG  h) hf (fun x6 M H locs hP hS bx6 hf => ?_)
          refine r_if_eq (tgt := 73) S dX10_share_62 (by decide) hf (fun hf => ?_) (fun hf => ?_)
          · refine lv_ldc (v := (-1000000001)) hx hb hown (ht _ k_1232) dX10_share_73 ?_
            exact hret _ _ _ _ _ _ dX10_share_75 hP hS rfl hf
          · refine lv_iload hx hb dX10_share_65 (lv_at hl 6 rfl) ?_
            refine r_callS (As := [.int p4]) (rest := []) S hK hE hst hP hS (cw_X10_286 ht ⟨Nat.le_of_ble_eq_true rfl, Nat.le_of_ble_eq_true rfl⟩) rfl hl.1 rfl (Nat.le_of_ble_eq_true rfl) dX10_share_67 z2 (fun _ _ h => c_X10_isPlaces hG  h) hf (fun x7 M H locs hP hS bx7 hf => ?_)
            refine r_if_ne (tgt := 76) S dX10_share_70 (by decide) hf (fun hf => ?_) (fun hf => ?_)
            · refine lv_aload_n hx hb dX10_share_76 rfl (lv_at hl 2 rfl) ?_
              refine lv_iload_n hx hb dX10_share_77 rfl (lv_at hl 4 rfl) ?_
              refine lv_iconst (v := 0) hx hb dX10_share_78 (by decide) ?_
              refine r_callV (As := [.int p2, .int 0]) (rest := []) S hK hE hst hP hS h0 (by decide) rfl (cw_X10_125 ht ⟨Nat.le_of_ble_eq_true rfl, Nat.le_of_ble_eq_true rfl⟩) rfl hl.1 rfl (Nat.le_of_ble_eq_true rfl) dX10_share_79 z2 (fun _ _ h => c_X10_spreadFor hG  h0 h) hf (fun x8 M H locs hP hS bx8 hf => ?_)
              refine lv_istore (lv' := [(7, .int x8), (6, .int x2), (5, .int x1), (0, .ref (ad o)), (1, .int p1), (2, .int p2), (3, .int p3), (4, .int p4)]) hx hb dX10_share_82 hl (by decide) rfl (fun ls hl => ?_)
              refine lv_iconst (v := 0) hx hb dX10_share_84 (by decide) ?_
              refine lv_istore (lv' := [(8, .int 0), (7, .int x8), (6, .int x2), (5, .int x1), (0, .ref (ad o)), (1, .int p1), (2, .int p2), (3, .int p3), (4, .int p4)]) hx hb dX10_share_85 hl (by decide) rfl (fun ls hl => ?_)
              refine lv_iconst (v := 0) hx hb dX10_share_87 (by decide) ?_
              refine lv_istore (lv' := [(9, .int 0), (8, .int 0), (7, .int x8), (6, .int x2), (5, .int x1), (0, .ref (ad o)), (1, .int p1), (2, .int p2), (3, .int p3), (4, .int p4)]) hx hb dX10_share_88 hl (by decide) rfl (fun ls hl => ?_)
              obtain ⟨F11, hF11, hf⟩ := it2_g hf
              have L11 : ∀ (n : Nat) (v9 : Int32) (v10 : Int32) (M : Mem) (H : Heap) (locs : List Loc) (ls : Array Slot), lv_has ls 15 [(0, .ref (ad o)), (3, .int p3), (4, .int p4), (5, .int x1), (6, .int x2), (7, .int x8), (8, .int v9), (9, .int v10)] → va_P D classes (gws K G2 ad M) H → va_S A s.heap H locs → it2 F11 n v9 v10 M = some (r, M') → W p l e rm_X10_share s m args below meth c H locs 0 0 Q (F0 m 90 ls []) := by
                intro n
                induction n with
                | zero => intro v9 v10 M H locs ls hl hP hS hf; exact nomatch hf
                | succ n ih11 =>
                  intro v9 v10 M H locs ls hl hP hS hf
                  obtain ⟨rc11, hrc11, hf⟩ := it2_w hf
                  rw [← hrc11] at ih11
                  rw [hF11] at hf
                  refine lv_iload hx hb dX10_share_90 (lv_at hl 7 rfl) ?_
                  refine lv_iload hx hb dX10_share_92 (lv_at hl 3 rfl) ?_
                  refine r_icmp_ge (tgt := 194) S dX10_share_94 (by decide) hf (fun hf => ?_) (fun hf => ?_)
                  · refine lv_iload hx hb dX10_share_194 (lv_at hl 6 rfl) ?_
                    exact hret _ _ _ _ _ _ dX10_share_196 hP hS rfl hf
                  · refine lv_iconst (v := 0) hx hb dX10_share_97 (by decide) ?_
                    refine lv_istore (lv' := [(10, .int 0), (0, .ref (ad o)), (3, .int p3), (4, .int p4), (5, .int x1), (6, .int x2), (7, .int x8), (8, .int v9), (9, .int v10)]) hx hb dX10_share_98 hl (by decide) rfl (fun ls hl => ?_)
                    refine lv_iconst (v := 0) hx hb dX10_share_100 (by decide) ?_
                    refine lv_istore (lv' := [(11, .int 0), (10, .int 0), (0, .ref (ad o)), (3, .int p3), (4, .int p4), (5, .int x1), (6, .int x2), (7, .int x8), (8, .int v9), (9, .int v10)]) hx hb dX10_share_101 hl (by decide) rfl (fun ls hl => ?_)
                    refine lv_iconst (v := (-1)) hx hb dX10_share_103 (by decide) ?_
                    refine lv_istore (lv' := [(12, .int (-1)), (11, .int 0), (10, .int 0), (0, .ref (ad o)), (3, .int p3), (4, .int p4), (5, .int x1), (6, .int x2), (7, .int x8), (8, .int v9), (9, .int v10)]) hx hb dX10_share_104 hl (by decide) rfl (fun ls hl => ?_)
                    refine lv_iconst (v := 0) hx hb dX10_share_106 (by decide) ?_
                    refine lv_istore (lv' := [(13, .int 0), (12, .int (-1)), (11, .int 0), (10, .int 0), (0, .ref (ad o)), (3, .int p3), (4, .int p4), (5, .int x1), (6, .int x2), (7, .int x8), (8, .int v9), (9, .int v10)]) hx hb dX10_share_107 hl (by decide) rfl (fun ls hl => ?_)
                    obtain ⟨F16, hF16, hf⟩ := it4_g hf
                    have L16 : ∀ (n : Nat) (v12 : Int32) (v13 : Int32) (v14 : Int32) (v15 : Int32) (M : Mem) (H : Heap) (locs : List Loc) (ls : Array Slot), lv_has ls 15 [(0, .ref (ad o)), (3, .int p3), (4, .int p4), (5, .int x1), (6, .int x2), (7, .int x8), (8, .int v9), (9, .int v10), (10, .int v12), (11, .int v13), (12, .int v14), (13, .int v15)] → va_P D classes (gws K G2 ad M) H → va_S A s.heap H locs → it4 F16 n v12 v13 v14 v15 M = some (r, M') → W p l e rm_X10_share s m args below meth c H locs 0 0 Q (F0 m 109 ls []) := by
                      intro n
                      induction n with
                      | zero => intro v12 v13 v14 v15 M H locs ls hl hP hS hf; exact nomatch hf
                      | succ n ih16 =>
                        intro v12 v13 v14 v15 M H locs ls hl hP hS hf
                        obtain ⟨rc16, hrc16, hf⟩ := it4_w hf
                        rw [← hrc16] at ih16
                        rw [hF16] at hf
                        refine lv_iload hx hb dX10_share_109 (lv_at hl 11 rfl) ?_
                        refine lv_iload hx hb dX10_share_111 (lv_at hl 4 rfl) ?_
                        refine r_icmp_ge (tgt := 172) S dX10_share_113 (by decide) hf (fun hf => ?_) (fun hf => ?_)
                        · refine lv_iload hx hb dX10_share_172 (lv_at hl 6 rfl) ?_
                          refine lv_iload hx hb dX10_share_174 (lv_at hl 8 rfl) ?_
                          refine lv_iload_n hx hb dX10_share_176 rfl (lv_at hl 1 rfl) ?_
                          refine r_icmp_lt (tgt := 184) S dX10_share_177 (by decide) hf (fun hf => ?_) (fun hf => ?_)
                          · refine lv_iconst (v := 0) hx hb dX10_share_184 (by decide) ?_
                            refine lv_iadd hx hb dX10_share_185 ?_
                            refine r_vi hf (fun x17 hf => ?_)
                            refine lv_istore (lv' := [(8, .int x17), (0, .ref (ad o)), (3, .int p3), (4, .int p4), (5, .int x1), (6, .int x2), (7, .int x8), (9, .int v10), (10, .int v12), (11, .int v13), (12, .int v14), (13, .int v15)]) hx hb dX10_share_186 hl (by decide) rfl (fun ls hl => ?_)
                            refine lv_iinc (v := (v10 + 1)) (lv' := [(9, .int (v10 + 1)), (8, .int x17), (0, .ref (ad o)), (3, .int p3), (4, .int p4), (5, .int x1), (6, .int x2), (7, .int x8), (10, .int v12), (11, .int v13), (12, .int v14), (13, .int v15)]) hx hb dX10_share_188 hl (k := 7) rfl rfl (by decide) rfl (fun ls hl => ?_)
                            refine lv_goto (tgt := 90) hx hb dX10_share_191 (by decide) ?_
                            exact ih11 x17 (v10 + 1) M H locs ls (lv_sub hl [2, 3, 4, 5, 6, 7, 1, 0] rfl) hP hS hf
                          · refine lv_iconst (v := 1) hx hb dX10_share_180 (by decide) ?_
                            refine lv_goto (tgt := 185) hx hb dX10_share_181 (by decide) ?_
                            refine lv_iadd hx hb dX10_share_185 ?_
                            refine r_vi hf (fun x18 hf => ?_)
                            refine lv_istore (lv' := [(8, .int x18), (0, .ref (ad o)), (3, .int p3), (4, .int p4), (5, .int x1), (6, .int x2), (7, .int x8), (9, .int v10), (10, .int v12), (11, .int v13), (12, .int v14), (13, .int v15)]) hx hb dX10_share_186 hl (by decide) rfl (fun ls hl => ?_)
                            refine lv_iinc (v := (v10 + 1)) (lv' := [(9, .int (v10 + 1)), (8, .int x18), (0, .ref (ad o)), (3, .int p3), (4, .int p4), (5, .int x1), (6, .int x2), (7, .int x8), (10, .int v12), (11, .int v13), (12, .int v14), (13, .int v15)]) hx hb dX10_share_188 hl (k := 7) rfl rfl (by decide) rfl (fun ls hl => ?_)
                            refine lv_goto (tgt := 90) hx hb dX10_share_191 (by decide) ?_
                            exact ih11 x18 (v10 + 1) M H locs ls (lv_sub hl [2, 3, 4, 5, 6, 7, 1, 0] rfl) hP hS hf
                        · refine lv_aload_n hx hb dX10_share_116 rfl (lv_at hl 0 rfl) ?_
                          refine lv_iload hx hb dX10_share_117 (lv_at hl 5 rfl) ?_
                          refine r_callV (As := [.int x8]) (rest := []) S hK hE hst hP hS h0 (by decide) rfl (cw_X10_360 ht ⟨Nat.le_of_ble_eq_true rfl, Nat.le_of_ble_eq_true rfl⟩) rfl hl.1 rfl (Nat.le_of_ble_eq_true rfl) dX10_share_119 z2 (fun _ _ h => c_X10_drawn hG  h0 h) hf (fun x19 M H locs hP hS bx19 hf => ?_)
                          refine lv_iload hx hb dX10_share_122 (lv_at hl 2 rfl) ?_
                          refine r_callS (As := [.int x19, .int p4]) (rest := []) S hK hE hst hP hS (cw_X10_272 ht ⟨Nat.le_of_ble_eq_true rfl, Nat.le_of_ble_eq_true rfl⟩) rfl hl.1 rfl (Nat.le_of_ble_eq_true rfl) dX10_share_124 z2 (fun _ _ h => c_X10_placed hG  h) hf (fun x20 M H locs hP hS bx20 hf => ?_)
                          refine lv_istore (lv' := [(14, .int x20), (0, .ref (ad o)), (3, .int p3), (4, .int p4), (5, .int x1), (6, .int x2), (7, .int x8), (8, .int v9), (9, .int v10), (10, .int v12), (11, .int v13), (12, .int v14), (13, .int v15)]) hx hb dX10_share_127 hl (by decide) rfl (fun ls hl => ?_)
                          refine lv_iload hx hb dX10_share_129 (lv_at hl 0 rfl) ?_
                          refine lv_iload hx hb dX10_share_131 (lv_at hl 11 rfl) ?_
                          obtain ⟨k22, hk22, hf⟩ := jn_w hf
                          have J22 : ∀ (v21 : Int32) (M : Mem) (H : Heap) (locs : List Loc) (ls : Array Slot), lv_has ls 15 [(0, .ref (ad o)), (3, .int p3), (4, .int p4), (5, .int x1), (6, .int x2), (7, .int x8), (8, .int v9), (9, .int v10), (10, .int v12), (13, .int v15), (14, .int x20)] → va_P D classes (gws K G2 ad M) H → va_S A s.heap H locs → k22 v21 M = some (r, M') → W p l e rm_X10_share s m args below meth c H locs 0 0 Q (F0 m 144 ls [.int v21]) := by
                            intro v21 M H locs ls hl hP hS hf
                            rw [hk22] at hf
                            refine lv_istore (lv' := [(11, .int v21), (0, .ref (ad o)), (3, .int p3), (4, .int p4), (5, .int x1), (6, .int x2), (7, .int x8), (8, .int v9), (9, .int v10), (10, .int v12), (13, .int v15), (14, .int x20)]) hx hb dX10_share_144 hl (by decide) rfl (fun ls hl => ?_)
                            refine lv_iload hx hb dX10_share_146 (lv_at hl 0 rfl) ?_
                            refine lv_iload hx hb dX10_share_148 (lv_at hl 9 rfl) ?_
                            refine r_icmp_le (tgt := 158) S dX10_share_150 (by decide) hf (fun hf => ?_) (fun hf => ?_)
                            · refine lv_iload hx hb dX10_share_158 (lv_at hl 9 rfl) ?_
                              refine lv_istore (lv' := [(10, .int v12), (11, .int v21), (0, .ref (ad o)), (3, .int p3), (4, .int p4), (5, .int x1), (6, .int x2), (7, .int x8), (8, .int v9), (9, .int v10), (13, .int v15), (14, .int x20)]) hx hb dX10_share_160 hl (by decide) rfl (fun ls hl => ?_)
                              refine lv_iload hx hb dX10_share_162 (lv_at hl 11 rfl) ?_
                              refine lv_istore (lv' := [(12, .int x20), (10, .int v12), (11, .int v21), (0, .ref (ad o)), (3, .int p3), (4, .int p4), (5, .int x1), (6, .int x2), (7, .int x8), (8, .int v9), (9, .int v10), (13, .int v15), (14, .int x20)]) hx hb dX10_share_164 hl (by decide) rfl (fun ls hl => ?_)
                              refine lv_iinc (v := (v15 + 1)) (lv' := [(13, .int (v15 + 1)), (12, .int x20), (10, .int v12), (11, .int v21), (0, .ref (ad o)), (3, .int p3), (4, .int p4), (5, .int x1), (6, .int x2), (7, .int x8), (8, .int v9), (9, .int v10), (14, .int x20)]) hx hb dX10_share_166 hl (k := 11) rfl rfl (by decide) rfl (fun ls hl => ?_)
                              refine lv_goto (tgt := 109) hx hb dX10_share_169 (by decide) ?_
                              exact ih16 v12 v21 x20 (v15 + 1) M H locs ls (lv_sub hl [4, 5, 6, 7, 8, 9, 10, 11, 2, 3, 1, 0] rfl) hP hS hf
                            · refine lv_iload hx hb dX10_share_153 (lv_at hl 0 rfl) ?_
                              refine lv_goto (tgt := 160) hx hb dX10_share_155 (by decide) ?_
                              refine lv_istore (lv' := [(10, .int v21), (11, .int v21), (0, .ref (ad o)), (3, .int p3), (4, .int p4), (5, .int x1), (6, .int x2), (7, .int x8), (8, .int v9), (9, .int v10), (13, .int v15), (14, .int x20)]) hx hb dX10_share_160 hl (by decide) rfl (fun ls hl => ?_)
                              refine lv_iload hx hb dX10_share_162 (lv_at hl 11 rfl) ?_
                              refine lv_istore (lv' := [(12, .int x20), (10, .int v21), (11, .int v21), (0, .ref (ad o)), (3, .int p3), (4, .int p4), (5, .int x1), (6, .int x2), (7, .int x8), (8, .int v9), (9, .int v10), (13, .int v15), (14, .int x20)]) hx hb dX10_share_164 hl (by decide) rfl (fun ls hl => ?_)
                              refine lv_iinc (v := (v15 + 1)) (lv' := [(13, .int (v15 + 1)), (12, .int x20), (10, .int v21), (11, .int v21), (0, .ref (ad o)), (3, .int p3), (4, .int p4), (5, .int x1), (6, .int x2), (7, .int x8), (8, .int v9), (9, .int v10), (14, .int x20)]) hx hb dX10_share_166 hl (k := 11) rfl rfl (by decide) rfl (fun ls hl => ?_)
                              refine lv_goto (tgt := 109) hx hb dX10_share_169 (by decide) ?_
                              exact ih16 v21 v21 x20 (v15 + 1) M H locs ls (lv_sub hl [4, 5, 6, 7, 8, 9, 10, 11, 2, 3, 1, 0] rfl) hP hS hf
                          refine r_icmp_ne (tgt := 143) S dX10_share_133 (by decide) hf (fun hf => ?_) (fun hf => ?_)
                          · refine lv_iconst (v := 1) hx hb dX10_share_143 (by decide) ?_
                            exact J22 1 M H locs ls (lv_sub hl [1, 2, 3, 4, 5, 6, 7, 8, 9, 12, 0] rfl) hP hS hf
                          · refine lv_iload hx hb dX10_share_136 (lv_at hl 10 rfl) ?_
                            refine lv_iconst (v := 1) hx hb dX10_share_138 (by decide) ?_
                            refine lv_iadd hx hb dX10_share_139 ?_
                            refine lv_goto (tgt := 144) hx hb dX10_share_140 (by decide) ?_
                            exact J22 (v13 + 1) M H locs ls (lv_sub hl [1, 2, 3, 4, 5, 6, 7, 8, 9, 12, 0] rfl) hP hS hf
                    exact L16 _ 0 0 (-1) 0 M H locs ls (lv_sub hl [4, 5, 6, 7, 8, 9, 10, 11, 3, 2, 1, 0] rfl) hP hS hf
              exact L11 _ 0 0 M H locs ls (lv_sub hl [5, 8, 9, 4, 3, 2, 1, 0] rfl) hP hS hf
            · refine lv_ldc (v := (-1000000001)) hx hb hown (ht _ k_1232) dX10_share_73 ?_
              exact hret _ _ _ _ _ _ dX10_share_75 hP hS rfl hf
