def f_X10_isSheet (p0 : Int32) (M : Mem) : Option (Int32 × Mem) :=
  bd (f_X10_isIn (Int32.toInt64 p0) 0 3 M) fun x1 M =>
  some (x1, M)
def rm_X10_isSheet : Room := { frames := 1, cells := 0, slots := 0, locals := 25 }
set_option maxHeartbeats 4000000 in
set_option maxRecDepth 100000 in
theorem c_X10_isSheet {l : Launch} {D : va_G} {K : Ks} {ad : Nat → Nat} {A : Nat → Prop} (hG : Gok G2 ad A) {p0 : Int32}  {M : Mem} {r : Int32} {M' : Mem} (hf : f_X10_isSheet p0 M = some (r, M')) : Ct l E2 D K G2 ad A yX10_isSheet (ws_of yX10_isSheet cX10_isSheet 1 (some .boolean)) rm_X10_isSheet .boolean [.int p0] M r M' := by
  have hst : Est A E2 := est2
  refine Ct.ofW (by decide) (Nat.le_of_ble_eq_true rfl) ?_
  intro p e s m args below meth c Q H locs ls S hK hE hP hS hl hret
  have hx := S.1
  have hb := S.2.1
  have hown := S.2.2.2.1
  have ht := S.2.2.2.2
  have hl : lv_has ls 1 [(0, .int p0)] := hl
  unfold f_X10_isSheet at hf
  refine lv_iload_n hx hb dX10_isSheet_0 rfl (lv_at hl 0 rfl) ?_
  refine lv_i2l (v := (Int32.toInt64 p0)) hx hb dX10_isSheet_1 rfl ?_
  refine lv_lconst (v := 0) hx hb dX10_isSheet_2 (by decide) ?_
  refine lv_ldc2 (v := 3) hx hb hown (ht _ k_1584) dX10_isSheet_3 ?_
  refine r_callS (As := [.long (Int32.toInt64 p0), .long 0, .long 3]) (rest := []) S hK hE hst hP hS (cw_X10_74 ht ⟨Nat.le_of_ble_eq_true rfl, Nat.le_of_ble_eq_true rfl⟩) rfl hl.1 rfl (Nat.le_of_ble_eq_true rfl) dX10_isSheet_6 z2 (fun _ _ h => c_X10_isIn hG  h) hf (fun x1 M H locs hP hS bx1 hf => ?_)
  exact hret _ _ _ _ _ _ dX10_isSheet_9 hP hS bx1 hf
theorem cw_X10_363 {R : Room} {s : State} {args : Array Value} (ht : ∀ w ∈ Tw, w.before args s = true) (hR : rm_X10_isSheet.frames + 1 ≤ R.frames ∧ 8 + (1 + 11) + rm_X10_isSheet.locals ≤ R.locals) : CallB R s args RX10 363 yX10_isSheet cX10_isSheet 1 (some .boolean) (ws_of yX10_isSheet cX10_isSheet 1 (some .boolean)) rm_X10_isSheet 0 0 1 ∧ (Cond.static yX10_isSheet).before args s = true := cw_S 1 ht k_1603 k_1604 k_73 k_1605 (by decide +kernel) rfl rfl hR
section
variable {p : Program} {l : Launch} {e : Env} {R : Room} {s : State} {m : MethodId} {args : Array Value} {below : List Frame} {meth : Method} {c : Code} {H : Heap} {locs : List Loc} {cells slots : Nat} {Q : State → Prop} {cc : ByteArray} {pc : Nat} {ls : Array Slot} {rest : List Value} {nL : Nat} {D : va_G} {K : Ks} {ad : Nat → Nat} {A : Nat → Prop} {M : Mem} {β : Type} {z : β}
theorem gf_X10_19 (S : CallFix p m c cc nL s args Tw RX10) (hK : va_K D classes (gty K) s) (hP : va_P D classes (gws K G2 ad M) H) {a : Nat} {kk : Nat → Option β} (ha : gcl G2 a = 10) (hdg : decode cc pc = .ok (.getfield 19, 3)) (hf : vv (grf G2 a 4) kk = some z) (w : ∀ b, gcl G2 b = 20 ∧ gsz G2 b = 4 → kk b = some z → W p l e R s m args below meth c H locs cells slots Q (F0 m (pc + 3) ls (.ref (ad b) :: rest))) : W p l e R s m args below meth c H locs cells slots Q (F0 m pc ls (.ref (ad a) :: rest)) := r_getr S hK hP (T := TX10) inX10 rfl (by decide) (by decide) ha (sf_X10_4 ha).1 k_1110 hdg hf (fun b e => w b (by rw [e]; exact (sf_X10_4 ha).2))
end
section
variable {p : Program} {l : Launch} {e : Env} {R : Room} {s : State} {m : MethodId} {args : Array Value} {below : List Frame} {meth : Method} {c : Code} {H : Heap} {locs : List Loc} {cells slots : Nat} {Q : State → Prop} {cc : ByteArray} {pc : Nat} {ls : Array Slot} {rest : List Value} {nL : Nat} {D : va_G} {K : Ks} {ad : Nat → Nat} {A : Nat → Prop} {M : Mem} {β : Type} {z : β}
theorem gf_X10_22 (S : CallFix p m c cc nL s args Tw RX10) (hK : va_K D classes (gty K) s) (hP : va_P D classes (gws K G2 ad M) H) {a : Nat} {kk : Nat → Option β} (ha : gcl G2 a = 10) (hdg : decode cc pc = .ok (.getfield 22, 3)) (hf : vv (grf G2 a 5) kk = some z) (w : ∀ b, gcl G2 b = 20 ∧ gsz G2 b = 4 → kk b = some z → W p l e R s m args below meth c H locs cells slots Q (F0 m (pc + 3) ls (.ref (ad b) :: rest))) : W p l e R s m args below meth c H locs cells slots Q (F0 m pc ls (.ref (ad a) :: rest)) := r_getr S hK hP (T := TX10) inX10 rfl (by decide) (by decide) ha (sf_X10_5 ha).1 k_1111 hdg hf (fun b e => w b (by rw [e]; exact (sf_X10_5 ha).2))
end
section
variable {p : Program} {l : Launch} {e : Env} {R : Room} {s : State} {m : MethodId} {args : Array Value} {below : List Frame} {meth : Method} {c : Code} {H : Heap} {locs : List Loc} {cells slots : Nat} {Q : State → Prop} {cc : ByteArray} {pc : Nat} {ls : Array Slot} {rest : List Value} {nL : Nat} {D : va_G} {K : Ks} {ad : Nat → Nat} {A : Nat → Prop} {M : Mem} {β : Type} {z : β}
theorem gf_X10_25 (S : CallFix p m c cc nL s args Tw RX10) (hK : va_K D classes (gty K) s) (hP : va_P D classes (gws K G2 ad M) H) {a : Nat} {kk : Nat → Option β} (ha : gcl G2 a = 10) (hdg : decode cc pc = .ok (.getfield 25, 3)) (hf : vv (grf G2 a 6) kk = some z) (w : ∀ b, gcl G2 b = 20 ∧ gsz G2 b = 96 → kk b = some z → W p l e R s m args below meth c H locs cells slots Q (F0 m (pc + 3) ls (.ref (ad b) :: rest))) : W p l e R s m args below meth c H locs cells slots Q (F0 m pc ls (.ref (ad a) :: rest)) := r_getr S hK hP (T := TX10) inX10 rfl (by decide) (by decide) ha (sf_X10_6 ha).1 k_1112 hdg hf (fun b e => w b (by rw [e]; exact (sf_X10_6 ha).2))
end
def f_X10_sheet (o : Nat) (p1 : Int32) (p2 : Int32) (p3 : Int32) (M : Mem) : Option (Int32 × Mem) :=
  bd (f_X10_isSheet p1 M) fun x1 M =>
  if x1 = 0 then
    some ((-1000000001), M)
  else
    bd (f_X10_isIn (Int32.toInt64 p2) (-1) 1 M) fun x2 M =>
    if x2 = 0 then
      some ((-1000000001), M)
    else
      jn (fun (M : Mem) =>
        jn (fun (M : Mem) =>
          vv (grf G2 o 4) fun x5 =>
          st M x5 p1 4 p2 fun M =>
          vv (grf G2 o 5) fun x6 =>
          jn (fun (v7 : Int32) (M : Mem) =>
            st M x6 p1 4 v7 fun M =>
            it1 (fun rc10 (v9 : Int32) M =>
              if v9 < 24 then
                vv (grf G2 o 6) fun x13 =>
                st M x13 ((24 * p1) + v9) 96 0 fun M =>
                rc10 (v9 + 1) M
              else
                vv (grf G2 o 5) fun x11 =>
                ld M x11 p1 4 fun x12 =>
                some (x12, M)
            ) fuel 0 M
          ) fun k8 =>
          if p2 < 0 then
            k8 0 M
          else
            k8 p3 M
        ) fun k4 =>
        if p2 < 0 then
          k4 M
        else
          if p3 < 0 then
            some ((-1000000014), M)
          else
            k4 M
      ) fun k3 =>
      if p2 < 0 then
        k3 M
      else
        if 24 < p3 then
          some ((-1000000001), M)
        else
          k3 M
def rm_X10_sheet : Room := { frames := 2, cells := 0, slots := 0, locals := 45 }
set_option maxHeartbeats 4000000 in
set_option maxRecDepth 100000 in
theorem c_X10_sheet {l : Launch} {D : va_G} {K : Ks} {ad : Nat → Nat} {A : Nat → Prop} (hG : Gok G2 ad A) {o : Nat} {p1 : Int32} {p2 : Int32} {p3 : Int32} (h0 : gcl G2 o = 10) {M : Mem} {r : Int32} {M' : Mem} (hf : f_X10_sheet o p1 p2 p3 M = some (r, M')) : Ct l E2 D K G2 ad A yX10_sheet (ws_of yX10_sheet cX10_sheet 5 (some .int)) rm_X10_sheet .int [.ref (ad o), .int p1, .int p2, .int p3] M r M' := by
  have hst : Est A E2 := est2
  refine Ct.ofW (by decide) (Nat.le_of_ble_eq_true rfl) ?_
  intro p e s m args below meth c Q H locs ls S hK hE hP hS hl hret
  have hx := S.1
  have hb := S.2.1
  have hown := S.2.2.2.1
  have ht := S.2.2.2.2
  have hl : lv_has ls 5 [(0, .ref (ad o)), (1, .int p1), (2, .int p2), (3, .int p3)] := hl
  unfold f_X10_sheet at hf
  refine lv_iload_n hx hb dX10_sheet_0 rfl (lv_at hl 1 rfl) ?_
  refine r_callS (As := [.int p1]) (rest := []) S hK hE hst hP hS (cw_X10_363 ht ⟨Nat.le_of_ble_eq_true rfl, Nat.le_of_ble_eq_true rfl⟩) rfl hl.1 rfl (Nat.le_of_ble_eq_true rfl) dX10_sheet_1 z2 (fun _ _ h => c_X10_isSheet hG  h) hf (fun x1 M H locs hP hS bx1 hf => ?_)
  refine r_if_eq (tgt := 29) S dX10_sheet_4 (by decide) hf (fun hf => ?_) (fun hf => ?_)
  · refine lv_ldc (v := (-1000000001)) hx hb hown (ht _ k_1232) dX10_sheet_29 ?_
    exact hret _ _ _ _ _ _ dX10_sheet_31 hP hS rfl hf
  · refine lv_iload_n hx hb dX10_sheet_7 rfl (lv_at hl 2 rfl) ?_
    refine lv_i2l (v := (Int32.toInt64 p2)) hx hb dX10_sheet_8 rfl ?_
    refine lv_ldc2 (v := (-1)) hx hb hown (ht _ k_1606) dX10_sheet_9 ?_
    refine lv_lconst (v := 1) hx hb dX10_sheet_12 (by decide) ?_
    refine r_callS (As := [.long (Int32.toInt64 p2), .long (-1), .long 1]) (rest := []) S hK hE hst hP hS (cw_X10_74 ht ⟨Nat.le_of_ble_eq_true rfl, Nat.le_of_ble_eq_true rfl⟩) rfl hl.1 rfl (Nat.le_of_ble_eq_true rfl) dX10_sheet_13 z2 (fun _ _ h => c_X10_isIn hG  h) hf (fun x2 M H locs hP hS bx2 hf => ?_)
    refine r_if_eq (tgt := 29) S dX10_sheet_16 (by decide) hf (fun hf => ?_) (fun hf => ?_)
    · refine lv_ldc (v := (-1000000001)) hx hb hown (ht _ k_1232) dX10_sheet_29 ?_
      exact hret _ _ _ _ _ _ dX10_sheet_31 hP hS rfl hf
    · refine lv_iload_n hx hb dX10_sheet_19 rfl (lv_at hl 2 rfl) ?_
      obtain ⟨k3, hk3, hf⟩ := jn_w hf
      have J3 : ∀ (M : Mem) (H : Heap) (locs : List Loc) (ls : Array Slot), lv_has ls 5 [(0, .ref (ad o)), (1, .int p1), (2, .int p2), (3, .int p3)] → va_P D classes (gws K G2 ad M) H → va_S A s.heap H locs → k3 M = some (r, M') → W p l e rm_X10_sheet s m args below meth c H locs 0 0 Q (F0 m 32 ls []) := by
        intro M H locs ls hl hP hS hf
        rw [hk3] at hf
        refine lv_iload_n hx hb dX10_sheet_32 rfl (lv_at hl 2 rfl) ?_
        obtain ⟨k4, hk4, hf⟩ := jn_w hf
        have J4 : ∀ (M : Mem) (H : Heap) (locs : List Loc) (ls : Array Slot), lv_has ls 5 [(0, .ref (ad o)), (1, .int p1), (2, .int p2), (3, .int p3)] → va_P D classes (gws K G2 ad M) H → va_S A s.heap H locs → k4 M = some (r, M') → W p l e rm_X10_sheet s m args below meth c H locs 0 0 Q (F0 m 44 ls []) := by
          intro M H locs ls hl hP hS hf
          rw [hk4] at hf
          refine lv_aload_n hx hb dX10_sheet_44 rfl (lv_at hl 0 rfl) ?_
          refine gf_X10_19 S hK hP h0 dX10_sheet_45 hf (fun x5 hx5 hf => ?_)
          refine lv_iload_n hx hb dX10_sheet_48 rfl (lv_at hl 1 rfl) ?_
          refine lv_iload_n hx hb dX10_sheet_49 rfl (lv_at hl 2 rfl) ?_
          refine r_iast S hK hG hP hS hx5 dX10_sheet_50 hf (fun M H locs hP hS hf => ?_)
          refine lv_aload_n hx hb dX10_sheet_51 rfl (lv_at hl 0 rfl) ?_
          refine gf_X10_22 S hK hP h0 dX10_sheet_52 hf (fun x6 hx6 hf => ?_)
          refine lv_iload_n hx hb dX10_sheet_55 rfl (lv_at hl 1 rfl) ?_
          refine lv_iload_n hx hb dX10_sheet_56 rfl (lv_at hl 2 rfl) ?_
          obtain ⟨k8, hk8, hf⟩ := jn_w hf
          have J8 : ∀ (v7 : Int32) (M : Mem) (H : Heap) (locs : List Loc) (ls : Array Slot), lv_has ls 5 [(0, .ref (ad o)), (1, .int p1)] → va_P D classes (gws K G2 ad M) H → va_S A s.heap H locs → k8 v7 M = some (r, M') → W p l e rm_X10_sheet s m args below meth c H locs 0 0 Q (F0 m 65 ls [.int v7, .int p1, .ref (ad x6)]) := by
            intro v7 M H locs ls hl hP hS hf
            rw [hk8] at hf
            refine r_iast S hK hG hP hS hx6 dX10_sheet_65 hf (fun M H locs hP hS hf => ?_)
            refine lv_iconst (v := 0) hx hb dX10_sheet_66 (by decide) ?_
            refine lv_istore (lv' := [(4, .int 0), (0, .ref (ad o)), (1, .int p1)]) hx hb dX10_sheet_67 hl (by decide) rfl (fun ls hl => ?_)
            obtain ⟨F10, hF10, hf⟩ := it1_g hf
            have L10 : ∀ (n : Nat) (v9 : Int32) (M : Mem) (H : Heap) (locs : List Loc) (ls : Array Slot), lv_has ls 5 [(0, .ref (ad o)), (1, .int p1), (4, .int v9)] → va_P D classes (gws K G2 ad M) H → va_S A s.heap H locs → it1 F10 n v9 M = some (r, M') → W p l e rm_X10_sheet s m args below meth c H locs 0 0 Q (F0 m 69 ls []) := by
              intro n
              induction n with
              | zero => intro v9 M H locs ls hl hP hS hf; exact nomatch hf
              | succ n ih10 =>
                intro v9 M H locs ls hl hP hS hf
                obtain ⟨rc10, hrc10, hf⟩ := it1_w hf
                rw [← hrc10] at ih10
                rw [hF10] at hf
                refine lv_iload hx hb dX10_sheet_69 (lv_at hl 2 rfl) ?_
                refine lv_bipush (v := 24) hx hb dX10_sheet_71 (by decide) ?_
                refine r_icmp_ge (tgt := 95) S dX10_sheet_73 (by decide) hf (fun hf => ?_) (fun hf => ?_)
                · refine lv_aload_n hx hb dX10_sheet_95 rfl (lv_at hl 0 rfl) ?_
                  refine gf_X10_22 S hK hP h0 dX10_sheet_96 hf (fun x11 hx11 hf => ?_)
                  refine lv_iload_n hx hb dX10_sheet_99 rfl (lv_at hl 1 rfl) ?_
                  refine r_iald S hK hP hx11 dX10_sheet_100 hf (fun x12 hf => ?_)
                  exact hret _ _ _ _ _ _ dX10_sheet_101 hP hS rfl hf
                · refine lv_aload_n hx hb dX10_sheet_76 rfl (lv_at hl 0 rfl) ?_
                  refine gf_X10_25 S hK hP h0 dX10_sheet_77 hf (fun x13 hx13 hf => ?_)
                  refine lv_bipush (v := 24) hx hb dX10_sheet_80 (by decide) ?_
                  refine lv_iload_n hx hb dX10_sheet_82 rfl (lv_at hl 1 rfl) ?_
                  refine lv_imul hx hb dX10_sheet_83 ?_
                  refine lv_iload hx hb dX10_sheet_84 (lv_at hl 2 rfl) ?_
                  refine lv_iadd hx hb dX10_sheet_86 ?_
                  refine lv_iconst (v := 0) hx hb dX10_sheet_87 (by decide) ?_
                  refine r_iast S hK hG hP hS hx13 dX10_sheet_88 hf (fun M H locs hP hS hf => ?_)
                  refine lv_iinc (v := (v9 + 1)) (lv' := [(4, .int (v9 + 1)), (0, .ref (ad o)), (1, .int p1)]) hx hb dX10_sheet_89 hl (k := 2) rfl rfl (by decide) rfl (fun ls hl => ?_)
                  refine lv_goto (tgt := 69) hx hb dX10_sheet_92 (by decide) ?_
                  exact ih10 (v9 + 1) M H locs ls (lv_sub hl [1, 2, 0] rfl) hP hS hf
            exact L10 _ 0 M H locs ls (lv_sub hl [1, 2, 0] rfl) hP hS hf
          refine r_if_ge (tgt := 64) S dX10_sheet_57 (by decide) hf (fun hf => ?_) (fun hf => ?_)
          · refine lv_iload_n hx hb dX10_sheet_64 rfl (lv_at hl 3 rfl) ?_
            exact J8 p3 M H locs ls (lv_sub hl [0, 1] rfl) hP hS hf
          · refine lv_iconst (v := 0) hx hb dX10_sheet_60 (by decide) ?_
            refine lv_goto (tgt := 65) hx hb dX10_sheet_61 (by decide) ?_
            exact J8 0 M H locs ls (lv_sub hl [0, 1] rfl) hP hS hf
        refine r_if_lt (tgt := 44) S dX10_sheet_33 (by decide) hf (fun hf => ?_) (fun hf => ?_)
        · exact J4 M H locs ls (lv_sub hl [0, 1, 2, 3] rfl) hP hS hf
        · refine lv_iload_n hx hb dX10_sheet_36 rfl (lv_at hl 3 rfl) ?_
          refine r_if_ge (tgt := 44) S dX10_sheet_37 (by decide) hf (fun hf => ?_) (fun hf => ?_)
          · exact J4 M H locs ls (lv_sub hl [0, 1, 2, 3] rfl) hP hS hf
          · refine lv_ldcw (v := (-1000000014)) hx hb hown (ht _ k_1607) dX10_sheet_40 ?_
            exact hret _ _ _ _ _ _ dX10_sheet_43 hP hS rfl hf
      refine r_if_lt (tgt := 32) S dX10_sheet_20 (by decide) hf (fun hf => ?_) (fun hf => ?_)
      · exact J3 M H locs ls (lv_sub hl [0, 1, 2, 3] rfl) hP hS hf
      · refine lv_iload_n hx hb dX10_sheet_23 rfl (lv_at hl 3 rfl) ?_
        refine lv_bipush (v := 24) hx hb dX10_sheet_24 (by decide) ?_
        refine r_icmp_le (tgt := 32) S dX10_sheet_26 (by decide) hf (fun hf => ?_) (fun hf => ?_)
        · exact J3 M H locs ls (lv_sub hl [0, 1, 2, 3] rfl) hP hS hf
        · refine lv_ldc (v := (-1000000001)) hx hb hown (ht _ k_1232) dX10_sheet_29 ?_
          exact hret _ _ _ _ _ _ dX10_sheet_31 hP hS rfl hf
def f_X10_mark (o : Nat) (p1 : Int32) (p2 : Int32) (p3 : Int32) (M : Mem) : Option (Int32 × Mem) :=
  bd (f_X10_isSheet p1 M) fun x1 M =>
  if x1 = 0 then
    some ((-1000000001), M)
  else
    vv (grf G2 o 4) fun x2 =>
    ld M x2 p1 4 fun x3 =>
    if x3 < 0 then
      some ((-1000000011), M)
    else
      vv (grf G2 o 5) fun x4 =>
      ld M x4 p1 4 fun x5 =>
      bd (f_X10_isIn (Int32.toInt64 p2) 0 (Int32.toInt64 (x5 - 1)) M) fun x6 M =>
      if x6 = 0 then
        some ((-1000000013), M)
      else
        vv (grf G2 o 4) fun x7 =>
        ld M x7 p1 4 fun x8 =>
        jn (fun (M : Mem) =>
          vv (grf G2 o 4) fun x10 =>
          ld M x10 p1 4 fun x11 =>
          jn (fun (M : Mem) =>
            vv (grf G2 o 6) fun x13 =>
            vv (grf G2 o 4) fun x14 =>
            ld M x14 p1 4 fun x15 =>
            jn (fun (v16 : Int32) (M : Mem) =>
              st M x13 ((24 * p1) + p2) 96 v16 fun M =>
              some (1, M)
            ) fun k17 =>
            if x15 = 1 then
              k17 ((p3 <<< ((16 : Int32) &&& 31)) >>> ((16 : Int32) &&& 31)) M
            else
              k17 p3 M
          ) fun k12 =>
          if x11 = 0 then
            if p3 = (-1000000005) then
              k12 M
            else
              bd (f_X10_isIn (Int32.toInt64 p3) (-99999) 99999 M) fun x18 M =>
              if x18 = 0 then
                some ((-1000000001), M)
              else
                k12 M
          else
            k12 M
        ) fun k9 =>
        if x8 = 1 then
          if p3 = (-1000000005) then
            some ((-1000000012), M)
          else
            k9 M
        else
          k9 M
def rm_X10_mark : Room := { frames := 2, cells := 0, slots := 0, locals := 45 }
set_option maxHeartbeats 4000000 in
set_option maxRecDepth 100000 in
theorem c_X10_mark {l : Launch} {D : va_G} {K : Ks} {ad : Nat → Nat} {A : Nat → Prop} (hG : Gok G2 ad A) {o : Nat} {p1 : Int32} {p2 : Int32} {p3 : Int32} (h0 : gcl G2 o = 10) {M : Mem} {r : Int32} {M' : Mem} (hf : f_X10_mark o p1 p2 p3 M = some (r, M')) : Ct l E2 D K G2 ad A yX10_mark (ws_of yX10_mark cX10_mark 4 (some .int)) rm_X10_mark .int [.ref (ad o), .int p1, .int p2, .int p3] M r M' := by
  have hst : Est A E2 := est2
  refine Ct.ofW (by decide) (Nat.le_of_ble_eq_true rfl) ?_
  intro p e s m args below meth c Q H locs ls S hK hE hP hS hl hret
  have hx := S.1
  have hb := S.2.1
  have hown := S.2.2.2.1
  have ht := S.2.2.2.2
  have hl : lv_has ls 4 [(0, .ref (ad o)), (1, .int p1), (2, .int p2), (3, .int p3)] := hl
  unfold f_X10_mark at hf
  refine lv_iload_n hx hb dX10_mark_0 rfl (lv_at hl 1 rfl) ?_
  refine r_callS (As := [.int p1]) (rest := []) S hK hE hst hP hS (cw_X10_363 ht ⟨Nat.le_of_ble_eq_true rfl, Nat.le_of_ble_eq_true rfl⟩) rfl hl.1 rfl (Nat.le_of_ble_eq_true rfl) dX10_mark_1 z2 (fun _ _ h => c_X10_isSheet hG  h) hf (fun x1 M H locs hP hS bx1 hf => ?_)
  refine r_if_ne (tgt := 10) S dX10_mark_4 (by decide) hf (fun hf => ?_) (fun hf => ?_)
  · refine lv_aload_n hx hb dX10_mark_10 rfl (lv_at hl 0 rfl) ?_
    refine gf_X10_19 S hK hP h0 dX10_mark_11 hf (fun x2 hx2 hf => ?_)
    refine lv_iload_n hx hb dX10_mark_14 rfl (lv_at hl 1 rfl) ?_
    refine r_iald S hK hP hx2 dX10_mark_15 hf (fun x3 hf => ?_)
    refine r_if_ge (tgt := 23) S dX10_mark_16 (by decide) hf (fun hf => ?_) (fun hf => ?_)
    · refine lv_iload_n hx hb dX10_mark_23 rfl (lv_at hl 2 rfl) ?_
      refine lv_i2l (v := (Int32.toInt64 p2)) hx hb dX10_mark_24 rfl ?_
      refine lv_lconst (v := 0) hx hb dX10_mark_25 (by decide) ?_
      refine lv_aload_n hx hb dX10_mark_26 rfl (lv_at hl 0 rfl) ?_
      refine gf_X10_22 S hK hP h0 dX10_mark_27 hf (fun x4 hx4 hf => ?_)
      refine lv_iload_n hx hb dX10_mark_30 rfl (lv_at hl 1 rfl) ?_
      refine r_iald S hK hP hx4 dX10_mark_31 hf (fun x5 hf => ?_)
      refine lv_iconst (v := 1) hx hb dX10_mark_32 (by decide) ?_
      refine lv_isub hx hb dX10_mark_33 ?_
      refine lv_i2l (v := (Int32.toInt64 (x5 - 1))) hx hb dX10_mark_34 rfl ?_
      refine r_callS (As := [.long (Int32.toInt64 p2), .long 0, .long (Int32.toInt64 (x5 - 1))]) (rest := []) S hK hE hst hP hS (cw_X10_74 ht ⟨Nat.le_of_ble_eq_true rfl, Nat.le_of_ble_eq_true rfl⟩) rfl hl.1 rfl (Nat.le_of_ble_eq_true rfl) dX10_mark_35 z2 (fun _ _ h => c_X10_isIn hG  h) hf (fun x6 M H locs hP hS bx6 hf => ?_)
      refine r_if_ne (tgt := 45) S dX10_mark_38 (by decide) hf (fun hf => ?_) (fun hf => ?_)
      · refine lv_aload_n hx hb dX10_mark_45 rfl (lv_at hl 0 rfl) ?_
        refine gf_X10_19 S hK hP h0 dX10_mark_46 hf (fun x7 hx7 hf => ?_)
        refine lv_iload_n hx hb dX10_mark_49 rfl (lv_at hl 1 rfl) ?_
        refine r_iald S hK hP hx7 dX10_mark_50 hf (fun x8 hf => ?_)
        refine lv_iconst (v := 1) hx hb dX10_mark_51 (by decide) ?_
        obtain ⟨k9, hk9, hf⟩ := jn_w hf
        have J9 : ∀ (M : Mem) (H : Heap) (locs : List Loc) (ls : Array Slot), lv_has ls 4 [(0, .ref (ad o)), (1, .int p1), (2, .int p2), (3, .int p3)] → va_P D classes (gws K G2 ad M) H → va_S A s.heap H locs → k9 M = some (r, M') → W p l e rm_X10_mark s m args below meth c H locs 0 0 Q (F0 m 64 ls []) := by
          intro M H locs ls hl hP hS hf
          rw [hk9] at hf
          refine lv_aload_n hx hb dX10_mark_64 rfl (lv_at hl 0 rfl) ?_
          refine gf_X10_19 S hK hP h0 dX10_mark_65 hf (fun x10 hx10 hf => ?_)
          refine lv_iload_n hx hb dX10_mark_68 rfl (lv_at hl 1 rfl) ?_
          refine r_iald S hK hP hx10 dX10_mark_69 hf (fun x11 hf => ?_)
          obtain ⟨k12, hk12, hf⟩ := jn_w hf
          have J12 : ∀ (M : Mem) (H : Heap) (locs : List Loc) (ls : Array Slot), lv_has ls 4 [(0, .ref (ad o)), (1, .int p1), (2, .int p2), (3, .int p3)] → va_P D classes (gws K G2 ad M) H → va_S A s.heap H locs → k12 M = some (r, M') → W p l e rm_X10_mark s m args below meth c H locs 0 0 Q (F0 m 96 ls []) := by
            intro M H locs ls hl hP hS hf
            rw [hk12] at hf
            refine lv_aload_n hx hb dX10_mark_96 rfl (lv_at hl 0 rfl) ?_
            refine gf_X10_25 S hK hP h0 dX10_mark_97 hf (fun x13 hx13 hf => ?_)
            refine lv_bipush (v := 24) hx hb dX10_mark_100 (by decide) ?_
            refine lv_iload_n hx hb dX10_mark_102 rfl (lv_at hl 1 rfl) ?_
            refine lv_imul hx hb dX10_mark_103 ?_
            refine lv_iload_n hx hb dX10_mark_104 rfl (lv_at hl 2 rfl) ?_
            refine lv_iadd hx hb dX10_mark_105 ?_
            refine lv_aload_n hx hb dX10_mark_106 rfl (lv_at hl 0 rfl) ?_
            refine gf_X10_19 S hK hP h0 dX10_mark_107 hf (fun x14 hx14 hf => ?_)
            refine lv_iload_n hx hb dX10_mark_110 rfl (lv_at hl 1 rfl) ?_
            refine r_iald S hK hP hx14 dX10_mark_111 hf (fun x15 hf => ?_)
            refine lv_iconst (v := 1) hx hb dX10_mark_112 (by decide) ?_
            obtain ⟨k17, hk17, hf⟩ := jn_w hf
            have J17 : ∀ (v16 : Int32) (M : Mem) (H : Heap) (locs : List Loc) (ls : Array Slot), lv_has ls 4 [] → va_P D classes (gws K G2 ad M) H → va_S A s.heap H locs → k17 v16 M = some (r, M') → W p l e rm_X10_mark s m args below meth c H locs 0 0 Q (F0 m 127 ls [.int v16, .int ((24 * p1) + p2), .ref (ad x13)]) := by
              intro v16 M H locs ls hl hP hS hf
              rw [hk17] at hf
              refine r_iast S hK hG hP hS hx13 dX10_mark_127 hf (fun M H locs hP hS hf => ?_)
              refine lv_iconst (v := 1) hx hb dX10_mark_128 (by decide) ?_
              exact hret _ _ _ _ _ _ dX10_mark_129 hP hS rfl hf
            refine r_icmp_ne (tgt := 126) S dX10_mark_113 (by decide) hf (fun hf => ?_) (fun hf => ?_)
            · refine lv_iload_n hx hb dX10_mark_126 rfl (lv_at hl 3 rfl) ?_
              exact J17 p3 M H locs ls (lv_sub hl [] rfl) hP hS hf
            · refine lv_iload_n hx hb dX10_mark_116 rfl (lv_at hl 3 rfl) ?_
              refine lv_bipush (v := 16) hx hb dX10_mark_117 (by decide) ?_
              refine lv_ishl hx hb dX10_mark_119 ?_
              refine lv_bipush (v := 16) hx hb dX10_mark_120 (by decide) ?_
              refine lv_ishr hx hb dX10_mark_122 ?_
              refine lv_goto (tgt := 127) hx hb dX10_mark_123 (by decide) ?_
              exact J17 ((p3 <<< ((16 : Int32) &&& 31)) >>> ((16 : Int32) &&& 31)) M H locs ls (lv_sub hl [] rfl) hP hS hf
          refine r_if_ne (tgt := 96) S dX10_mark_70 (by decide) hf (fun hf => ?_) (fun hf => ?_)
          · exact J12 M H locs ls (lv_sub hl [0, 1, 2, 3] rfl) hP hS hf
          · refine lv_iload_n hx hb dX10_mark_73 rfl (lv_at hl 3 rfl) ?_
            refine lv_ldc (v := (-1000000005)) hx hb hown (ht _ k_1268) dX10_mark_74 ?_
            refine r_icmp_eq (tgt := 96) S dX10_mark_76 (by decide) hf (fun hf => ?_) (fun hf => ?_)
            · exact J12 M H locs ls (lv_sub hl [0, 1, 2, 3] rfl) hP hS hf
            · refine lv_iload_n hx hb dX10_mark_79 rfl (lv_at hl 3 rfl) ?_
              refine lv_i2l (v := (Int32.toInt64 p3)) hx hb dX10_mark_80 rfl ?_
              refine lv_ldc2 (v := (-99999)) hx hb hown (ht _ k_1614) dX10_mark_81 ?_
              refine lv_ldc2 (v := 99999) hx hb hown (ht _ k_1615) dX10_mark_84 ?_
              refine r_callS (As := [.long (Int32.toInt64 p3), .long (-99999), .long 99999]) (rest := []) S hK hE hst hP hS (cw_X10_74 ht ⟨Nat.le_of_ble_eq_true rfl, Nat.le_of_ble_eq_true rfl⟩) rfl hl.1 rfl (Nat.le_of_ble_eq_true rfl) dX10_mark_87 z2 (fun _ _ h => c_X10_isIn hG  h) hf (fun x18 M H locs hP hS bx18 hf => ?_)
              refine r_if_ne (tgt := 96) S dX10_mark_90 (by decide) hf (fun hf => ?_) (fun hf => ?_)
              · exact J12 M H locs ls (lv_sub hl [0, 1, 2, 3] rfl) hP hS hf
              · refine lv_ldc (v := (-1000000001)) hx hb hown (ht _ k_1232) dX10_mark_93 ?_
                exact hret _ _ _ _ _ _ dX10_mark_95 hP hS rfl hf
        refine r_icmp_ne (tgt := 64) S dX10_mark_52 (by decide) hf (fun hf => ?_) (fun hf => ?_)
        · exact J9 M H locs ls (lv_sub hl [0, 1, 2, 3] rfl) hP hS hf
        · refine lv_iload_n hx hb dX10_mark_55 rfl (lv_at hl 3 rfl) ?_
          refine lv_ldc (v := (-1000000005)) hx hb hown (ht _ k_1268) dX10_mark_56 ?_
          refine r_icmp_ne (tgt := 64) S dX10_mark_58 (by decide) hf (fun hf => ?_) (fun hf => ?_)
          · exact J9 M H locs ls (lv_sub hl [0, 1, 2, 3] rfl) hP hS hf
          · refine lv_ldc (v := (-1000000012)) hx hb hown (ht _ k_1322) dX10_mark_61 ?_
            exact hret _ _ _ _ _ _ dX10_mark_63 hP hS rfl hf
      · refine lv_ldcw (v := (-1000000013)) hx hb hown (ht _ k_1613) dX10_mark_41 ?_
        exact hret _ _ _ _ _ _ dX10_mark_44 hP hS rfl hf
    · refine lv_ldcw (v := (-1000000011)) hx hb hown (ht _ k_1612) dX10_mark_19 ?_
      exact hret _ _ _ _ _ _ dX10_mark_22 hP hS rfl hf
  · refine lv_ldc (v := (-1000000001)) hx hb hown (ht _ k_1232) dX10_mark_7 ?_
    exact hret _ _ _ _ _ _ dX10_mark_9 hP hS rfl hf
def f_X10_print (o : Nat) (p1 : Int32) (p2 : Int32) (p3 : Int32) (M : Mem) : Option (Int32 × Mem) :=
  bd (f_X10_isTable o p1 M) fun x1 M =>
  if x1 = 0 then
    some ((-1000000001), M)
  else
    bd (f_X10_isSheet p2 M) fun x2 M =>
    if x2 = 0 then
      some ((-1000000001), M)
    else
      bd (f_X10_isPairs p3 M) fun x3 M =>
      if x3 = 0 then
        some ((-1000000001), M)
      else
        vv (grf G2 o 4) fun x4 =>
        ld M x4 p2 4 fun x5 =>
        if x5 < 0 then
          some ((-1000000011), M)
        else
          it1 (fun rc7 (v6 : Int32) M =>
            vv (grf G2 o 5) fun x8 =>
            ld M x8 p2 4 fun x9 =>
            jn (fun (M : Mem) =>
              vv (grf G2 o 0) fun x11 =>
              ld M x11 1 3510 fun x12 =>
              if 40 < (x12 + v6) then
                some ((-1000000003), M)
              else
                it1 (fun rc14 (v13 : Int32) M =>
                  if v13 < v6 then
                    vv (grf G2 o 6) fun x15 =>
                    ld M x15 ((24 * p2) + v13) 96 fun x16 =>
                    bd (f_X10_newFigure o p1 1 x16 p3 (-1) M) fun x17 M =>
                    rc14 (v13 + 1) M
                  else
                    some (v6, M)
                ) fuel 0 M
            ) fun k10 =>
            if v6 < x9 then
              vv (grf G2 o 6) fun x18 =>
              ld M x18 ((24 * p2) + v6) 96 fun x19 =>
              bd (f_X10_isIn (Int32.toInt64 x19) 0 9999 M) fun x20 M =>
              if x20 = 0 then
                k10 M
              else
                rc7 (v6 + 1) M
            else
              k10 M
          ) fuel 0 M
def rm_X10_print : Room := { frames := 2, cells := 0, slots := 0, locals := 47 }
set_option maxHeartbeats 4000000 in
set_option maxRecDepth 100000 in
theorem c_X10_print {l : Launch} {D : va_G} {K : Ks} {ad : Nat → Nat} {A : Nat → Prop} (hG : Gok G2 ad A) {o : Nat} {p1 : Int32} {p2 : Int32} {p3 : Int32} (h0 : gcl G2 o = 10) {M : Mem} {r : Int32} {M' : Mem} (hf : f_X10_print o p1 p2 p3 M = some (r, M')) : Ct l E2 D K G2 ad A yX10_print (ws_of yX10_print cX10_print 7 (some .int)) rm_X10_print .int [.ref (ad o), .int p1, .int p2, .int p3] M r M' := by
  have hst : Est A E2 := est2
  refine Ct.ofW (by decide) (Nat.le_of_ble_eq_true rfl) ?_
  intro p e s m args below meth c Q H locs ls S hK hE hP hS hl hret
  have hx := S.1
  have hb := S.2.1
  have hown := S.2.2.2.1
  have ht := S.2.2.2.2
  have hl : lv_has ls 7 [(0, .ref (ad o)), (1, .int p1), (2, .int p2), (3, .int p3)] := hl
  unfold f_X10_print at hf
  refine lv_aload_n hx hb dX10_print_0 rfl (lv_at hl 0 rfl) ?_
  refine lv_iload_n hx hb dX10_print_1 rfl (lv_at hl 1 rfl) ?_
  refine r_callV (As := [.int p1]) (rest := []) S hK hE hst hP hS h0 (by decide) rfl (cw_X10_91 ht ⟨Nat.le_of_ble_eq_true rfl, Nat.le_of_ble_eq_true rfl⟩) rfl hl.1 rfl (Nat.le_of_ble_eq_true rfl) dX10_print_2 z2 (fun _ _ h => c_X10_isTable hG  h0 h) hf (fun x1 M H locs hP hS bx1 hf => ?_)
  refine r_if_eq (tgt := 22) S dX10_print_5 (by decide) hf (fun hf => ?_) (fun hf => ?_)
  · refine lv_ldc (v := (-1000000001)) hx hb hown (ht _ k_1232) dX10_print_22 ?_
    exact hret _ _ _ _ _ _ dX10_print_24 hP hS rfl hf
  · refine lv_iload_n hx hb dX10_print_8 rfl (lv_at hl 2 rfl) ?_
    refine r_callS (As := [.int p2]) (rest := []) S hK hE hst hP hS (cw_X10_363 ht ⟨Nat.le_of_ble_eq_true rfl, Nat.le_of_ble_eq_true rfl⟩) rfl hl.1 rfl (Nat.le_of_ble_eq_true rfl) dX10_print_9 z2 (fun _ _ h => c_X10_isSheet hG  h) hf (fun x2 M H locs hP hS bx2 hf => ?_)
    refine r_if_eq (tgt := 22) S dX10_print_12 (by decide) hf (fun hf => ?_) (fun hf => ?_)
    · refine lv_ldc (v := (-1000000001)) hx hb hown (ht _ k_1232) dX10_print_22 ?_
      exact hret _ _ _ _ _ _ dX10_print_24 hP hS rfl hf
    · refine lv_iload_n hx hb dX10_print_15 rfl (lv_at hl 3 rfl) ?_
      refine r_callS (As := [.int p3]) (rest := []) S hK hE hst hP hS (cw_X10_99 ht ⟨Nat.le_of_ble_eq_true rfl, Nat.le_of_ble_eq_true rfl⟩) rfl hl.1 rfl (Nat.le_of_ble_eq_true rfl) dX10_print_16 z2 (fun _ _ h => c_X10_isPairs hG  h) hf (fun x3 M H locs hP hS bx3 hf => ?_)
      refine r_if_ne (tgt := 25) S dX10_print_19 (by decide) hf (fun hf => ?_) (fun hf => ?_)
      · refine lv_aload_n hx hb dX10_print_25 rfl (lv_at hl 0 rfl) ?_
        refine gf_X10_19 S hK hP h0 dX10_print_26 hf (fun x4 hx4 hf => ?_)
        refine lv_iload_n hx hb dX10_print_29 rfl (lv_at hl 2 rfl) ?_
        refine r_iald S hK hP hx4 dX10_print_30 hf (fun x5 hf => ?_)
        refine r_if_ge (tgt := 38) S dX10_print_31 (by decide) hf (fun hf => ?_) (fun hf => ?_)
        · refine lv_iconst (v := 0) hx hb dX10_print_38 (by decide) ?_
          refine lv_istore (lv' := [(4, .int 0), (0, .ref (ad o)), (1, .int p1), (2, .int p2), (3, .int p3)]) hx hb dX10_print_39 hl (by decide) rfl (fun ls hl => ?_)
          obtain ⟨F7, hF7, hf⟩ := it1_g hf
          have L7 : ∀ (n : Nat) (v6 : Int32) (M : Mem) (H : Heap) (locs : List Loc) (ls : Array Slot), lv_has ls 7 [(0, .ref (ad o)), (1, .int p1), (2, .int p2), (3, .int p3), (4, .int v6)] → va_P D classes (gws K G2 ad M) H → va_S A s.heap H locs → it1 F7 n v6 M = some (r, M') → W p l e rm_X10_print s m args below meth c H locs 0 0 Q (F0 m 41 ls []) := by
            intro n
            induction n with
            | zero => intro v6 M H locs ls hl hP hS hf; exact nomatch hf
            | succ n ih7 =>
              intro v6 M H locs ls hl hP hS hf
              obtain ⟨rc7, hrc7, hf⟩ := it1_w hf
              rw [← hrc7] at ih7
              rw [hF7] at hf
              refine lv_iload hx hb dX10_print_41 (lv_at hl 4 rfl) ?_
              refine lv_aload_n hx hb dX10_print_43 rfl (lv_at hl 0 rfl) ?_
              refine gf_X10_22 S hK hP h0 dX10_print_44 hf (fun x8 hx8 hf => ?_)
              refine lv_iload_n hx hb dX10_print_47 rfl (lv_at hl 2 rfl) ?_
              refine r_iald S hK hP hx8 dX10_print_48 hf (fun x9 hf => ?_)
              obtain ⟨k10, hk10, hf⟩ := jn_w hf
              have J10 : ∀ (M : Mem) (H : Heap) (locs : List Loc) (ls : Array Slot), lv_has ls 7 [(0, .ref (ad o)), (1, .int p1), (2, .int p2), (3, .int p3), (4, .int v6)] → va_P D classes (gws K G2 ad M) H → va_S A s.heap H locs → k10 M = some (r, M') → W p l e rm_X10_print s m args below meth c H locs 0 0 Q (F0 m 81 ls []) := by
                intro M H locs ls hl hP hS hf
                rw [hk10] at hf
                refine lv_aload_n hx hb dX10_print_81 rfl (lv_at hl 0 rfl) ?_
                refine gf_X10_7 S hK hP h0 dX10_print_82 hf (fun x11 hx11 hf => ?_)
                refine lv_iconst (v := 1) hx hb dX10_print_85 (by decide) ?_
                refine r_iald S hK hP hx11 dX10_print_86 hf (fun x12 hf => ?_)
                refine lv_iload hx hb dX10_print_87 (lv_at hl 4 rfl) ?_
                refine lv_iadd hx hb dX10_print_89 ?_
                refine lv_bipush (v := 40) hx hb dX10_print_90 (by decide) ?_
                refine r_icmp_le (tgt := 98) S dX10_print_92 (by decide) hf (fun hf => ?_) (fun hf => ?_)
                · refine lv_iconst (v := 0) hx hb dX10_print_98 (by decide) ?_
                  refine lv_istore (lv' := [(5, .int 0), (0, .ref (ad o)), (1, .int p1), (2, .int p2), (3, .int p3), (4, .int v6)]) hx hb dX10_print_99 hl (by decide) rfl (fun ls hl => ?_)
                  obtain ⟨F14, hF14, hf⟩ := it1_g hf
                  have L14 : ∀ (n : Nat) (v13 : Int32) (M : Mem) (H : Heap) (locs : List Loc) (ls : Array Slot), lv_has ls 7 [(0, .ref (ad o)), (1, .int p1), (2, .int p2), (3, .int p3), (4, .int v6), (5, .int v13)] → va_P D classes (gws K G2 ad M) H → va_S A s.heap H locs → it1 F14 n v13 M = some (r, M') → W p l e rm_X10_print s m args below meth c H locs 0 0 Q (F0 m 101 ls []) := by
                    intro n
                    induction n with
                    | zero => intro v13 M H locs ls hl hP hS hf; exact nomatch hf
                    | succ n ih14 =>
                      intro v13 M H locs ls hl hP hS hf
                      obtain ⟨rc14, hrc14, hf⟩ := it1_w hf
                      rw [← hrc14] at ih14
                      rw [hF14] at hf
                      refine lv_iload hx hb dX10_print_101 (lv_at hl 5 rfl) ?_
                      refine lv_iload hx hb dX10_print_103 (lv_at hl 4 rfl) ?_
                      refine r_icmp_ge (tgt := 136) S dX10_print_105 (by decide) hf (fun hf => ?_) (fun hf => ?_)
                      · refine lv_iload hx hb dX10_print_136 (lv_at hl 4 rfl) ?_
                        exact hret _ _ _ _ _ _ dX10_print_138 hP hS rfl hf
                      · refine lv_aload_n hx hb dX10_print_108 rfl (lv_at hl 0 rfl) ?_
                        refine lv_iload_n hx hb dX10_print_109 rfl (lv_at hl 1 rfl) ?_
                        refine lv_iconst (v := 1) hx hb dX10_print_110 (by decide) ?_
                        refine lv_aload_n hx hb dX10_print_111 rfl (lv_at hl 0 rfl) ?_
                        refine gf_X10_25 S hK hP h0 dX10_print_112 hf (fun x15 hx15 hf => ?_)
                        refine lv_bipush (v := 24) hx hb dX10_print_115 (by decide) ?_
                        refine lv_iload_n hx hb dX10_print_117 rfl (lv_at hl 2 rfl) ?_
                        refine lv_imul hx hb dX10_print_118 ?_
                        refine lv_iload hx hb dX10_print_119 (lv_at hl 5 rfl) ?_
                        refine lv_iadd hx hb dX10_print_121 ?_
                        refine r_iald S hK hP hx15 dX10_print_122 hf (fun x16 hf => ?_)
                        refine lv_iload_n hx hb dX10_print_123 rfl (lv_at hl 3 rfl) ?_
                        refine lv_iconst (v := (-1)) hx hb dX10_print_124 (by decide) ?_
                        refine r_callV (As := [.int p1, .int 1, .int x16, .int p3, .int (-1)]) (rest := []) S hK hE hst hP hS h0 (by decide) rfl (cw_X10_105 ht ⟨Nat.le_of_ble_eq_true rfl, Nat.le_of_ble_eq_true rfl⟩) rfl hl.1 rfl (Nat.le_of_ble_eq_true rfl) dX10_print_125 z2 (fun _ _ h => c_X10_newFigure hG  h0 h) hf (fun x17 M H locs hP hS bx17 hf => ?_)
                        refine lv_istore (lv' := [(6, .int x17), (0, .ref (ad o)), (1, .int p1), (2, .int p2), (3, .int p3), (4, .int v6), (5, .int v13)]) hx hb dX10_print_128 hl (by decide) rfl (fun ls hl => ?_)
                        refine lv_iinc (v := (v13 + 1)) (lv' := [(5, .int (v13 + 1)), (6, .int x17), (0, .ref (ad o)), (1, .int p1), (2, .int p2), (3, .int p3), (4, .int v6)]) hx hb dX10_print_130 hl (k := 6) rfl rfl (by decide) rfl (fun ls hl => ?_)
                        refine lv_goto (tgt := 101) hx hb dX10_print_133 (by decide) ?_
                        exact ih14 (v13 + 1) M H locs ls (lv_sub hl [2, 3, 4, 5, 6, 0] rfl) hP hS hf
                  exact L14 _ 0 M H locs ls (lv_sub hl [1, 2, 3, 4, 5, 0] rfl) hP hS hf
                · refine lv_ldc (v := (-1000000003)) hx hb hown (ht _ k_1234) dX10_print_95 ?_
                  exact hret _ _ _ _ _ _ dX10_print_97 hP hS rfl hf
              refine r_icmp_ge (tgt := 81) S dX10_print_49 (by decide) hf (fun hf => ?_) (fun hf => ?_)
              · exact J10 M H locs ls (lv_sub hl [0, 1, 2, 3, 4] rfl) hP hS hf
              · refine lv_aload_n hx hb dX10_print_52 rfl (lv_at hl 0 rfl) ?_
                refine gf_X10_25 S hK hP h0 dX10_print_53 hf (fun x18 hx18 hf => ?_)
                refine lv_bipush (v := 24) hx hb dX10_print_56 (by decide) ?_
                refine lv_iload_n hx hb dX10_print_58 rfl (lv_at hl 2 rfl) ?_
                refine lv_imul hx hb dX10_print_59 ?_
                refine lv_iload hx hb dX10_print_60 (lv_at hl 4 rfl) ?_
                refine lv_iadd hx hb dX10_print_62 ?_
                refine r_iald S hK hP hx18 dX10_print_63 hf (fun x19 hf => ?_)
                refine lv_i2l (v := (Int32.toInt64 x19)) hx hb dX10_print_64 rfl ?_
                refine lv_lconst (v := 0) hx hb dX10_print_65 (by decide) ?_
                refine lv_ldc2 (v := 9999) hx hb hown (ht _ k_1244) dX10_print_66 ?_
                refine r_callS (As := [.long (Int32.toInt64 x19), .long 0, .long 9999]) (rest := []) S hK hE hst hP hS (cw_X10_74 ht ⟨Nat.le_of_ble_eq_true rfl, Nat.le_of_ble_eq_true rfl⟩) rfl hl.1 rfl (Nat.le_of_ble_eq_true rfl) dX10_print_69 z2 (fun _ _ h => c_X10_isIn hG  h) hf (fun x20 M H locs hP hS bx20 hf => ?_)
                refine r_if_eq (tgt := 81) S dX10_print_72 (by decide) hf (fun hf => ?_) (fun hf => ?_)
                · exact J10 M H locs ls (lv_sub hl [0, 1, 2, 3, 4] rfl) hP hS hf
                · refine lv_iinc (v := (v6 + 1)) (lv' := [(4, .int (v6 + 1)), (0, .ref (ad o)), (1, .int p1), (2, .int p2), (3, .int p3)]) hx hb dX10_print_75 hl (k := 4) rfl rfl (by decide) rfl (fun ls hl => ?_)
                  refine lv_goto (tgt := 41) hx hb dX10_print_78 (by decide) ?_
                  exact ih7 (v6 + 1) M H locs ls (lv_sub hl [1, 2, 3, 4, 0] rfl) hP hS hf
          exact L7 _ 0 M H locs ls (lv_sub hl [1, 2, 3, 4, 0] rfl) hP hS hf
        · refine lv_ldcw (v := (-1000000011)) hx hb hown (ht _ k_1612) dX10_print_34 ?_
          exact hret _ _ _ _ _ _ dX10_print_37 hP hS rfl hf
      · refine lv_ldc (v := (-1000000001)) hx hb hown (ht _ k_1232) dX10_print_22 ?_
        exact hret _ _ _ _ _ _ dX10_print_24 hP hS rfl hf
section
variable {p : Program} {l : Launch} {e : Env} {R : Room} {s : State} {m : MethodId} {args : Array Value} {below : List Frame} {meth : Method} {c : Code} {H : Heap} {locs : List Loc} {cells slots : Nat} {Q : State → Prop} {cc : ByteArray} {pc : Nat} {ls : Array Slot} {rest : List Value} {nL : Nat} {D : va_G} {K : Ks} {ad : Nat → Nat} {A : Nat → Prop} {M : Mem} {β : Type} {z : β}
theorem gf_X10_64 (S : CallFix p m c cc nL s args Tw RX10) (hK : va_K D classes (gty K) s) (hP : va_P D classes (gws K G2 ad M) H) {a : Nat} {kk : Nat → Option β} (ha : gcl G2 a = 10) (hdg : decode cc pc = .ok (.getfield 64, 3)) (hf : vv (grf G2 a 35) kk = some z) (w : ∀ b, gcl G2 b = 20 ∧ gsz G2 b = 24 → kk b = some z → W p l e R s m args below meth c H locs cells slots Q (F0 m (pc + 3) ls (.ref (ad b) :: rest))) : W p l e R s m args below meth c H locs cells slots Q (F0 m pc ls (.ref (ad a) :: rest)) := r_getr S hK hP (T := TX10) inX10 rfl (by decide) (by decide) ha (sf_X10_35 ha).1 k_1141 hdg hf (fun b e => w b (by rw [e]; exact (sf_X10_35 ha).2))
end
def f_X10_copy (o : Nat) (p1 : Int32) (p2 : Int32) (p3 : Int32) (p4 : Int32) (p5 : Int32) (M : Mem) : Option (Int32 × Mem) :=
  bd (f_X10_isSheet p1 M) fun x1 M =>
  if x1 = 0 then
    some ((-1000000001), M)
  else
    bd (f_X10_isSheet p3 M) fun x2 M =>
    if x2 = 0 then
      some ((-1000000001), M)
    else
      vv (grf G2 o 4) fun x3 =>
      ld M x3 p1 4 fun x4 =>
      if x4 < 0 then
        some ((-1000000011), M)
      else
        vv (grf G2 o 4) fun x5 =>
        ld M x5 p3 4 fun x6 =>
        if x6 < 0 then
          some ((-1000000011), M)
        else
          vv (grf G2 o 4) fun x7 =>
          ld M x7 p1 4 fun x8 =>
          vv (grf G2 o 4) fun x9 =>
          ld M x9 p3 4 fun x10 =>
          if x8 = x10 then
            if p2 < 0 then
              some ((-1000000013), M)
            else
              if p4 < 0 then
                some ((-1000000013), M)
              else
                if p5 < 0 then
                  some ((-1000000013), M)
                else
                  vv (grf G2 o 5) fun x11 =>
                  ld M x11 p1 4 fun x12 =>
                  if 0 < (lg_cmp ((Int32.toInt64 p2) + (Int32.toInt64 p5)) (Int32.toInt64 x12)) then
                    some ((-1000000013), M)
                  else
                    vv (grf G2 o 5) fun x13 =>
                    ld M x13 p3 4 fun x14 =>
                    if 0 < (lg_cmp ((Int32.toInt64 p4) + (Int32.toInt64 p5)) (Int32.toInt64 x14)) then
                      some ((-1000000013), M)
                    else
                      it1 (fun rc16 (v15 : Int32) M =>
                        if v15 < p5 then
                          vv (grf G2 o 35) fun x22 =>
                          vv (grf G2 o 6) fun x23 =>
                          ld M x23 (((24 * p1) + p2) + v15) 96 fun x24 =>
                          st M x22 v15 24 x24 fun M =>
                          rc16 (v15 + 1) M
                        else
                          it1 (fun rc18 (v17 : Int32) M =>
                            if v17 < p5 then
                              vv (grf G2 o 6) fun x19 =>
                              vv (grf G2 o 35) fun x20 =>
                              ld M x20 v17 24 fun x21 =>
                              st M x19 (((24 * p3) + p4) + v17) 96 x21 fun M =>
                              rc18 (v17 + 1) M
                            else
                              some (p5, M)
                          ) fuel 0 M
                      ) fuel 0 M
          else
            some ((-1000000012), M)
def rm_X10_copy : Room := { frames := 2, cells := 0, slots := 0, locals := 45 }
set_option maxHeartbeats 4000000 in
set_option maxRecDepth 100000 in
theorem c_X10_copy {l : Launch} {D : va_G} {K : Ks} {ad : Nat → Nat} {A : Nat → Prop} (hG : Gok G2 ad A) {o : Nat} {p1 : Int32} {p2 : Int32} {p3 : Int32} {p4 : Int32} {p5 : Int32} (h0 : gcl G2 o = 10) {M : Mem} {r : Int32} {M' : Mem} (hf : f_X10_copy o p1 p2 p3 p4 p5 M = some (r, M')) : Ct l E2 D K G2 ad A yX10_copy (ws_of yX10_copy cX10_copy 7 (some .int)) rm_X10_copy .int [.ref (ad o), .int p1, .int p2, .int p3, .int p4, .int p5] M r M' := by
  have hst : Est A E2 := est2
  refine Ct.ofW (by decide) (Nat.le_of_ble_eq_true rfl) ?_
  intro p e s m args below meth c Q H locs ls S hK hE hP hS hl hret
  have hx := S.1
  have hb := S.2.1
  have hown := S.2.2.2.1
  have ht := S.2.2.2.2
  have hl : lv_has ls 7 [(0, .ref (ad o)), (1, .int p1), (2, .int p2), (3, .int p3), (4, .int p4), (5, .int p5)] := hl
  unfold f_X10_copy at hf
  refine lv_iload_n hx hb dX10_copy_0 rfl (lv_at hl 1 rfl) ?_
  refine r_callS (As := [.int p1]) (rest := []) S hK hE hst hP hS (cw_X10_363 ht ⟨Nat.le_of_ble_eq_true rfl, Nat.le_of_ble_eq_true rfl⟩) rfl hl.1 rfl (Nat.le_of_ble_eq_true rfl) dX10_copy_1 z2 (fun _ _ h => c_X10_isSheet hG  h) hf (fun x1 M H locs hP hS bx1 hf => ?_)
  refine r_if_eq (tgt := 14) S dX10_copy_4 (by decide) hf (fun hf => ?_) (fun hf => ?_)
  · refine lv_ldc (v := (-1000000001)) hx hb hown (ht _ k_1232) dX10_copy_14 ?_
    exact hret _ _ _ _ _ _ dX10_copy_16 hP hS rfl hf
  · refine lv_iload_n hx hb dX10_copy_7 rfl (lv_at hl 3 rfl) ?_
    refine r_callS (As := [.int p3]) (rest := []) S hK hE hst hP hS (cw_X10_363 ht ⟨Nat.le_of_ble_eq_true rfl, Nat.le_of_ble_eq_true rfl⟩) rfl hl.1 rfl (Nat.le_of_ble_eq_true rfl) dX10_copy_8 z2 (fun _ _ h => c_X10_isSheet hG  h) hf (fun x2 M H locs hP hS bx2 hf => ?_)
    refine r_if_ne (tgt := 17) S dX10_copy_11 (by decide) hf (fun hf => ?_) (fun hf => ?_)
    · refine lv_aload_n hx hb dX10_copy_17 rfl (lv_at hl 0 rfl) ?_
      refine gf_X10_19 S hK hP h0 dX10_copy_18 hf (fun x3 hx3 hf => ?_)
      refine lv_iload_n hx hb dX10_copy_21 rfl (lv_at hl 1 rfl) ?_
      refine r_iald S hK hP hx3 dX10_copy_22 hf (fun x4 hf => ?_)
      refine r_if_lt (tgt := 35) S dX10_copy_23 (by decide) hf (fun hf => ?_) (fun hf => ?_)
      · refine lv_ldcw (v := (-1000000011)) hx hb hown (ht _ k_1612) dX10_copy_35 ?_
        exact hret _ _ _ _ _ _ dX10_copy_38 hP hS rfl hf
      · refine lv_aload_n hx hb dX10_copy_26 rfl (lv_at hl 0 rfl) ?_
        refine gf_X10_19 S hK hP h0 dX10_copy_27 hf (fun x5 hx5 hf => ?_)
        refine lv_iload_n hx hb dX10_copy_30 rfl (lv_at hl 3 rfl) ?_
        refine r_iald S hK hP hx5 dX10_copy_31 hf (fun x6 hf => ?_)
        refine r_if_ge (tgt := 39) S dX10_copy_32 (by decide) hf (fun hf => ?_) (fun hf => ?_)
        · refine lv_aload_n hx hb dX10_copy_39 rfl (lv_at hl 0 rfl) ?_
          refine gf_X10_19 S hK hP h0 dX10_copy_40 hf (fun x7 hx7 hf => ?_)
          refine lv_iload_n hx hb dX10_copy_43 rfl (lv_at hl 1 rfl) ?_
          refine r_iald S hK hP hx7 dX10_copy_44 hf (fun x8 hf => ?_)
          refine lv_aload_n hx hb dX10_copy_45 rfl (lv_at hl 0 rfl) ?_
          refine gf_X10_19 S hK hP h0 dX10_copy_46 hf (fun x9 hx9 hf => ?_)
          refine lv_iload_n hx hb dX10_copy_49 rfl (lv_at hl 3 rfl) ?_
          refine r_iald S hK hP hx9 dX10_copy_50 hf (fun x10 hf => ?_)
          refine r_icmp_eq (tgt := 57) S dX10_copy_51 (by decide) hf (fun hf => ?_) (fun hf => ?_)
          · refine lv_iload_n hx hb dX10_copy_57 rfl (lv_at hl 2 rfl) ?_
            refine r_if_lt (tgt := 106) S dX10_copy_58 (by decide) hf (fun hf => ?_) (fun hf => ?_)
            · refine lv_ldcw (v := (-1000000013)) hx hb hown (ht _ k_1613) dX10_copy_106 ?_
              exact hret _ _ _ _ _ _ dX10_copy_109 hP hS rfl hf
            · refine lv_iload hx hb dX10_copy_61 (lv_at hl 4 rfl) ?_
              refine r_if_lt (tgt := 106) S dX10_copy_63 (by decide) hf (fun hf => ?_) (fun hf => ?_)
              · refine lv_ldcw (v := (-1000000013)) hx hb hown (ht _ k_1613) dX10_copy_106 ?_
                exact hret _ _ _ _ _ _ dX10_copy_109 hP hS rfl hf
              · refine lv_iload hx hb dX10_copy_66 (lv_at hl 5 rfl) ?_
                refine r_if_lt (tgt := 106) S dX10_copy_68 (by decide) hf (fun hf => ?_) (fun hf => ?_)
                · refine lv_ldcw (v := (-1000000013)) hx hb hown (ht _ k_1613) dX10_copy_106 ?_
                  exact hret _ _ _ _ _ _ dX10_copy_109 hP hS rfl hf
                · refine lv_iload_n hx hb dX10_copy_71 rfl (lv_at hl 2 rfl) ?_
                  refine lv_i2l (v := (Int32.toInt64 p2)) hx hb dX10_copy_72 rfl ?_
                  refine lv_iload hx hb dX10_copy_73 (lv_at hl 5 rfl) ?_
                  refine lv_i2l (v := (Int32.toInt64 p5)) hx hb dX10_copy_75 rfl ?_
                  refine lv_ladd hx hb dX10_copy_76 ?_
                  refine lv_aload_n hx hb dX10_copy_77 rfl (lv_at hl 0 rfl) ?_
                  refine gf_X10_22 S hK hP h0 dX10_copy_78 hf (fun x11 hx11 hf => ?_)
                  refine lv_iload_n hx hb dX10_copy_81 rfl (lv_at hl 1 rfl) ?_
                  refine r_iald S hK hP hx11 dX10_copy_82 hf (fun x12 hf => ?_)
                  refine lv_i2l (v := (Int32.toInt64 x12)) hx hb dX10_copy_83 rfl ?_
                  refine W.lcmp hx hb dX10_copy_84 ?_
                  refine r_if_gt (tgt := 106) S dX10_copy_85 (by decide) hf (fun hf => ?_) (fun hf => ?_)
                  · refine lv_ldcw (v := (-1000000013)) hx hb hown (ht _ k_1613) dX10_copy_106 ?_
                    exact hret _ _ _ _ _ _ dX10_copy_109 hP hS rfl hf
                  · refine lv_iload hx hb dX10_copy_88 (lv_at hl 4 rfl) ?_
                    refine lv_i2l (v := (Int32.toInt64 p4)) hx hb dX10_copy_90 rfl ?_
                    refine lv_iload hx hb dX10_copy_91 (lv_at hl 5 rfl) ?_
                    refine lv_i2l (v := (Int32.toInt64 p5)) hx hb dX10_copy_93 rfl ?_
                    refine lv_ladd hx hb dX10_copy_94 ?_
                    refine lv_aload_n hx hb dX10_copy_95 rfl (lv_at hl 0 rfl) ?_
                    refine gf_X10_22 S hK hP h0 dX10_copy_96 hf (fun x13 hx13 hf => ?_)
                    refine lv_iload_n hx hb dX10_copy_99 rfl (lv_at hl 3 rfl) ?_
                    refine r_iald S hK hP hx13 dX10_copy_100 hf (fun x14 hf => ?_)
                    refine lv_i2l (v := (Int32.toInt64 x14)) hx hb dX10_copy_101 rfl ?_
                    refine W.lcmp hx hb dX10_copy_102 ?_
                    refine r_if_le (tgt := 110) S dX10_copy_103 (by decide) hf (fun hf => ?_) (fun hf => ?_)
                    · refine lv_iconst (v := 0) hx hb dX10_copy_110 (by decide) ?_
                      refine lv_istore (lv' := [(6, .int 0), (0, .ref (ad o)), (1, .int p1), (2, .int p2), (3, .int p3), (4, .int p4), (5, .int p5)]) hx hb dX10_copy_111 hl (by decide) rfl (fun ls hl => ?_)
                      obtain ⟨F16, hF16, hf⟩ := it1_g hf
                      have L16 : ∀ (n : Nat) (v15 : Int32) (M : Mem) (H : Heap) (locs : List Loc) (ls : Array Slot), lv_has ls 7 [(0, .ref (ad o)), (1, .int p1), (2, .int p2), (3, .int p3), (4, .int p4), (5, .int p5), (6, .int v15)] → va_P D classes (gws K G2 ad M) H → va_S A s.heap H locs → it1 F16 n v15 M = some (r, M') → W p l e rm_X10_copy s m args below meth c H locs 0 0 Q (F0 m 113 ls []) := by
                        intro n
                        induction n with
                        | zero => intro v15 M H locs ls hl hP hS hf; exact nomatch hf
                        | succ n ih16 =>
                          intro v15 M H locs ls hl hP hS hf
                          obtain ⟨rc16, hrc16, hf⟩ := it1_w hf
                          rw [← hrc16] at ih16
                          rw [hF16] at hf
                          refine lv_iload hx hb dX10_copy_113 (lv_at hl 6 rfl) ?_
                          refine lv_iload hx hb dX10_copy_115 (lv_at hl 5 rfl) ?_
                          refine r_icmp_ge (tgt := 147) S dX10_copy_117 (by decide) hf (fun hf => ?_) (fun hf => ?_)
                          · refine lv_iconst (v := 0) hx hb dX10_copy_147 (by decide) ?_
                            refine lv_istore (lv' := [(6, .int 0), (0, .ref (ad o)), (1, .int p1), (2, .int p2), (3, .int p3), (4, .int p4), (5, .int p5)]) hx hb dX10_copy_148 hl (by decide) rfl (fun ls hl => ?_)
                            obtain ⟨F18, hF18, hf⟩ := it1_g hf
                            have L18 : ∀ (n : Nat) (v17 : Int32) (M : Mem) (H : Heap) (locs : List Loc) (ls : Array Slot), lv_has ls 7 [(0, .ref (ad o)), (3, .int p3), (4, .int p4), (5, .int p5), (6, .int v17)] → va_P D classes (gws K G2 ad M) H → va_S A s.heap H locs → it1 F18 n v17 M = some (r, M') → W p l e rm_X10_copy s m args below meth c H locs 0 0 Q (F0 m 150 ls []) := by
                              intro n
                              induction n with
                              | zero => intro v17 M H locs ls hl hP hS hf; exact nomatch hf
                              | succ n ih18 =>
                                intro v17 M H locs ls hl hP hS hf
                                obtain ⟨rc18, hrc18, hf⟩ := it1_w hf
                                rw [← hrc18] at ih18
                                rw [hF18] at hf
                                refine lv_iload hx hb dX10_copy_150 (lv_at hl 4 rfl) ?_
                                refine lv_iload hx hb dX10_copy_152 (lv_at hl 3 rfl) ?_
                                refine r_icmp_ge (tgt := 185) S dX10_copy_154 (by decide) hf (fun hf => ?_) (fun hf => ?_)
                                · refine lv_iload hx hb dX10_copy_185 (lv_at hl 3 rfl) ?_
                                  exact hret _ _ _ _ _ _ dX10_copy_187 hP hS rfl hf
                                · refine lv_aload_n hx hb dX10_copy_157 rfl (lv_at hl 0 rfl) ?_
                                  refine gf_X10_25 S hK hP h0 dX10_copy_158 hf (fun x19 hx19 hf => ?_)
                                  refine lv_bipush (v := 24) hx hb dX10_copy_161 (by decide) ?_
                                  refine lv_iload_n hx hb dX10_copy_163 rfl (lv_at hl 1 rfl) ?_
                                  refine lv_imul hx hb dX10_copy_164 ?_
                                  refine lv_iload hx hb dX10_copy_165 (lv_at hl 2 rfl) ?_
                                  refine lv_iadd hx hb dX10_copy_167 ?_
                                  refine lv_iload hx hb dX10_copy_168 (lv_at hl 4 rfl) ?_
                                  refine lv_iadd hx hb dX10_copy_170 ?_
                                  refine lv_aload_n hx hb dX10_copy_171 rfl (lv_at hl 0 rfl) ?_
                                  refine gf_X10_64 S hK hP h0 dX10_copy_172 hf (fun x20 hx20 hf => ?_)
                                  refine lv_iload hx hb dX10_copy_175 (lv_at hl 4 rfl) ?_
                                  refine r_iald S hK hP hx20 dX10_copy_177 hf (fun x21 hf => ?_)
                                  refine r_iast S hK hG hP hS hx19 dX10_copy_178 hf (fun M H locs hP hS hf => ?_)
                                  refine lv_iinc (v := (v17 + 1)) (lv' := [(6, .int (v17 + 1)), (0, .ref (ad o)), (3, .int p3), (4, .int p4), (5, .int p5)]) hx hb dX10_copy_179 hl (k := 4) rfl rfl (by decide) rfl (fun ls hl => ?_)
                                  refine lv_goto (tgt := 150) hx hb dX10_copy_182 (by decide) ?_
                                  exact ih18 (v17 + 1) M H locs ls (lv_sub hl [1, 2, 3, 4, 0] rfl) hP hS hf
                            exact L18 _ 0 M H locs ls (lv_sub hl [1, 4, 5, 6, 0] rfl) hP hS hf
                          · refine lv_aload_n hx hb dX10_copy_120 rfl (lv_at hl 0 rfl) ?_
                            refine gf_X10_64 S hK hP h0 dX10_copy_121 hf (fun x22 hx22 hf => ?_)
                            refine lv_iload hx hb dX10_copy_124 (lv_at hl 6 rfl) ?_
                            refine lv_aload_n hx hb dX10_copy_126 rfl (lv_at hl 0 rfl) ?_
                            refine gf_X10_25 S hK hP h0 dX10_copy_127 hf (fun x23 hx23 hf => ?_)
                            refine lv_bipush (v := 24) hx hb dX10_copy_130 (by decide) ?_
                            refine lv_iload_n hx hb dX10_copy_132 rfl (lv_at hl 1 rfl) ?_
                            refine lv_imul hx hb dX10_copy_133 ?_
                            refine lv_iload_n hx hb dX10_copy_134 rfl (lv_at hl 2 rfl) ?_
                            refine lv_iadd hx hb dX10_copy_135 ?_
                            refine lv_iload hx hb dX10_copy_136 (lv_at hl 6 rfl) ?_
                            refine lv_iadd hx hb dX10_copy_138 ?_
                            refine r_iald S hK hP hx23 dX10_copy_139 hf (fun x24 hf => ?_)
                            refine r_iast S hK hG hP hS hx22 dX10_copy_140 hf (fun M H locs hP hS hf => ?_)
                            refine lv_iinc (v := (v15 + 1)) (lv' := [(6, .int (v15 + 1)), (0, .ref (ad o)), (1, .int p1), (2, .int p2), (3, .int p3), (4, .int p4), (5, .int p5)]) hx hb dX10_copy_141 hl (k := 6) rfl rfl (by decide) rfl (fun ls hl => ?_)
                            refine lv_goto (tgt := 113) hx hb dX10_copy_144 (by decide) ?_
                            exact ih16 (v15 + 1) M H locs ls (lv_sub hl [1, 2, 3, 4, 5, 6, 0] rfl) hP hS hf
                      exact L16 _ 0 M H locs ls (lv_sub hl [1, 2, 3, 4, 5, 6, 0] rfl) hP hS hf
                    · refine lv_ldcw (v := (-1000000013)) hx hb hown (ht _ k_1613) dX10_copy_106 ?_
                      exact hret _ _ _ _ _ _ dX10_copy_109 hP hS rfl hf
          · refine lv_ldc (v := (-1000000012)) hx hb hown (ht _ k_1322) dX10_copy_54 ?_
            exact hret _ _ _ _ _ _ dX10_copy_56 hP hS rfl hf
        · refine lv_ldcw (v := (-1000000011)) hx hb hown (ht _ k_1612) dX10_copy_35 ?_
          exact hret _ _ _ _ _ _ dX10_copy_38 hP hS rfl hf
    · refine lv_ldc (v := (-1000000001)) hx hb hown (ht _ k_1232) dX10_copy_14 ?_
      exact hret _ _ _ _ _ _ dX10_copy_16 hP hS rfl hf
def f_X10_isSlot (p0 : Int32) (M : Mem) : Option (Int32 × Mem) :=
  bd (f_X10_isIn (Int32.toInt64 p0) 0 4 M) fun x1 M =>
  some (x1, M)
def rm_X10_isSlot : Room := { frames := 1, cells := 0, slots := 0, locals := 25 }
set_option maxHeartbeats 4000000 in
set_option maxRecDepth 100000 in
theorem c_X10_isSlot {l : Launch} {D : va_G} {K : Ks} {ad : Nat → Nat} {A : Nat → Prop} (hG : Gok G2 ad A) {p0 : Int32}  {M : Mem} {r : Int32} {M' : Mem} (hf : f_X10_isSlot p0 M = some (r, M')) : Ct l E2 D K G2 ad A yX10_isSlot (ws_of yX10_isSlot cX10_isSlot 1 (some .boolean)) rm_X10_isSlot .boolean [.int p0] M r M' := by
  have hst : Est A E2 := est2
  refine Ct.ofW (by decide) (Nat.le_of_ble_eq_true rfl) ?_
  intro p e s m args below meth c Q H locs ls S hK hE hP hS hl hret
  have hx := S.1
  have hb := S.2.1
  have hown := S.2.2.2.1
  have ht := S.2.2.2.2
  have hl : lv_has ls 1 [(0, .int p0)] := hl
  unfold f_X10_isSlot at hf
  refine lv_iload_n hx hb dX10_isSlot_0 rfl (lv_at hl 0 rfl) ?_
  refine lv_i2l (v := (Int32.toInt64 p0)) hx hb dX10_isSlot_1 rfl ?_
  refine lv_lconst (v := 0) hx hb dX10_isSlot_2 (by decide) ?_
  refine lv_ldc2 (v := 4) hx hb hown (ht _ k_1448) dX10_isSlot_3 ?_
  refine r_callS (As := [.long (Int32.toInt64 p0), .long 0, .long 4]) (rest := []) S hK hE hst hP hS (cw_X10_74 ht ⟨Nat.le_of_ble_eq_true rfl, Nat.le_of_ble_eq_true rfl⟩) rfl hl.1 rfl (Nat.le_of_ble_eq_true rfl) dX10_isSlot_6 z2 (fun _ _ h => c_X10_isIn hG  h) hf (fun x1 M H locs hP hS bx1 hf => ?_)
  exact hret _ _ _ _ _ _ dX10_isSlot_9 hP hS bx1 hf
theorem cw_X10_375 {R : Room} {s : State} {args : Array Value} (ht : ∀ w ∈ Tw, w.before args s = true) (hR : rm_X10_isSlot.frames + 1 ≤ R.frames ∧ 8 + (1 + 11) + rm_X10_isSlot.locals ≤ R.locals) : CallB R s args RX10 375 yX10_isSlot cX10_isSlot 1 (some .boolean) (ws_of yX10_isSlot cX10_isSlot 1 (some .boolean)) rm_X10_isSlot 0 0 1 ∧ (Cond.static yX10_isSlot).before args s = true := cw_S 1 ht k_1628 k_1629 k_73 k_1630 (by decide +kernel) rfl rfl hR
section
variable {p : Program} {l : Launch} {e : Env} {R : Room} {s : State} {m : MethodId} {args : Array Value} {below : List Frame} {meth : Method} {c : Code} {H : Heap} {locs : List Loc} {cells slots : Nat} {Q : State → Prop} {cc : ByteArray} {pc : Nat} {ls : Array Slot} {rest : List Value} {nL : Nat} {D : va_G} {K : Ks} {ad : Nat → Nat} {A : Nat → Prop} {M : Mem} {β : Type} {z : β}
theorem gf_X10_28 (S : CallFix p m c cc nL s args Tw RX10) (hK : va_K D classes (gty K) s) (hP : va_P D classes (gws K G2 ad M) H) {a : Nat} {kk : Nat → Option β} (ha : gcl G2 a = 10) (hdg : decode cc pc = .ok (.getfield 28, 3)) (hf : vv (grf G2 a 7) kk = some z) (w : ∀ b, gcl G2 b = 20 ∧ gsz G2 b = 5 → kk b = some z → W p l e R s m args below meth c H locs cells slots Q (F0 m (pc + 3) ls (.ref (ad b) :: rest))) : W p l e R s m args below meth c H locs cells slots Q (F0 m pc ls (.ref (ad a) :: rest)) := r_getr S hK hP (T := TX10) inX10 rfl (by decide) (by decide) ha (sf_X10_7 ha).1 k_1113 hdg hf (fun b e => w b (by rw [e]; exact (sf_X10_7 ha).2))
end
section
variable {p : Program} {l : Launch} {e : Env} {R : Room} {s : State} {m : MethodId} {args : Array Value} {below : List Frame} {meth : Method} {c : Code} {H : Heap} {locs : List Loc} {cells slots : Nat} {Q : State → Prop} {cc : ByteArray} {pc : Nat} {ls : Array Slot} {rest : List Value} {nL : Nat} {D : va_G} {K : Ks} {ad : Nat → Nat} {A : Nat → Prop} {M : Mem} {β : Type} {z : β}
theorem gf_X10_31 (S : CallFix p m c cc nL s args Tw RX10) (hK : va_K D classes (gty K) s) (hP : va_P D classes (gws K G2 ad M) H) {a : Nat} {kk : Nat → Option β} (ha : gcl G2 a = 10) (hdg : decode cc pc = .ok (.getfield 31, 3)) (hf : vv (grf G2 a 8) kk = some z) (w : ∀ b, gcl G2 b = 20 ∧ gsz G2 b = 5 → kk b = some z → W p l e R s m args below meth c H locs cells slots Q (F0 m (pc + 3) ls (.ref (ad b) :: rest))) : W p l e R s m args below meth c H locs cells slots Q (F0 m pc ls (.ref (ad a) :: rest)) := r_getr S hK hP (T := TX10) inX10 rfl (by decide) (by decide) ha (sf_X10_8 ha).1 k_1114 hdg hf (fun b e => w b (by rw [e]; exact (sf_X10_8 ha).2))
end
section
variable {p : Program} {l : Launch} {e : Env} {R : Room} {s : State} {m : MethodId} {args : Array Value} {below : List Frame} {meth : Method} {c : Code} {H : Heap} {locs : List Loc} {cells slots : Nat} {Q : State → Prop} {cc : ByteArray} {pc : Nat} {ls : Array Slot} {rest : List Value} {nL : Nat} {D : va_G} {K : Ks} {ad : Nat → Nat} {A : Nat → Prop} {M : Mem} {β : Type} {z : β}
theorem gf_X10_34 (S : CallFix p m c cc nL s args Tw RX10) (hK : va_K D classes (gty K) s) (hP : va_P D classes (gws K G2 ad M) H) {a : Nat} {kk : Nat → Option β} (ha : gcl G2 a = 10) (hdg : decode cc pc = .ok (.getfield 34, 3)) (hf : vv (grf G2 a 9) kk = some z) (w : ∀ b, gcl G2 b = 20 ∧ gsz G2 b = 5 → kk b = some z → W p l e R s m args below meth c H locs cells slots Q (F0 m (pc + 3) ls (.ref (ad b) :: rest))) : W p l e R s m args below meth c H locs cells slots Q (F0 m pc ls (.ref (ad a) :: rest)) := r_getr S hK hP (T := TX10) inX10 rfl (by decide) (by decide) ha (sf_X10_9 ha).1 k_1115 hdg hf (fun b e => w b (by rw [e]; exact (sf_X10_9 ha).2))
end
section
variable {p : Program} {l : Launch} {e : Env} {R : Room} {s : State} {m : MethodId} {args : Array Value} {below : List Frame} {meth : Method} {c : Code} {H : Heap} {locs : List Loc} {cells slots : Nat} {Q : State → Prop} {cc : ByteArray} {pc : Nat} {ls : Array Slot} {rest : List Value} {nL : Nat} {D : va_G} {K : Ks} {ad : Nat → Nat} {A : Nat → Prop} {M : Mem} {β : Type} {z : β}
theorem gf_X10_37 (S : CallFix p m c cc nL s args Tw RX10) (hK : va_K D classes (gty K) s) (hP : va_P D classes (gws K G2 ad M) H) {a : Nat} {kk : Nat → Option β} (ha : gcl G2 a = 10) (hdg : decode cc pc = .ok (.getfield 37, 3)) (hf : vv (grf G2 a 10) kk = some z) (w : ∀ b, gcl G2 b = 20 ∧ gsz G2 b = 5 → kk b = some z → W p l e R s m args below meth c H locs cells slots Q (F0 m (pc + 3) ls (.ref (ad b) :: rest))) : W p l e R s m args below meth c H locs cells slots Q (F0 m pc ls (.ref (ad a) :: rest)) := r_getr S hK hP (T := TX10) inX10 rfl (by decide) (by decide) ha (sf_X10_10 ha).1 k_1116 hdg hf (fun b e => w b (by rw [e]; exact (sf_X10_10 ha).2))
end
section
variable {p : Program} {l : Launch} {e : Env} {R : Room} {s : State} {m : MethodId} {args : Array Value} {below : List Frame} {meth : Method} {c : Code} {H : Heap} {locs : List Loc} {cells slots : Nat} {Q : State → Prop} {cc : ByteArray} {pc : Nat} {ls : Array Slot} {rest : List Value} {nL : Nat} {D : va_G} {K : Ks} {ad : Nat → Nat} {A : Nat → Prop} {M : Mem} {β : Type} {z : β}
theorem gf_X10_40 (S : CallFix p m c cc nL s args Tw RX10) (hK : va_K D classes (gty K) s) (hP : va_P D classes (gws K G2 ad M) H) {a : Nat} {kk : Nat → Option β} (ha : gcl G2 a = 10) (hdg : decode cc pc = .ok (.getfield 40, 3)) (hf : vv (grf G2 a 11) kk = some z) (w : ∀ b, gcl G2 b = 20 ∧ gsz G2 b = 120 → kk b = some z → W p l e R s m args below meth c H locs cells slots Q (F0 m (pc + 3) ls (.ref (ad b) :: rest))) : W p l e R s m args below meth c H locs cells slots Q (F0 m pc ls (.ref (ad a) :: rest)) := r_getr S hK hP (T := TX10) inX10 rfl (by decide) (by decide) ha (sf_X10_11 ha).1 k_1117 hdg hf (fun b e => w b (by rw [e]; exact (sf_X10_11 ha).2))
end
def f_X10_lay (o : Nat) (p1 : Int32) (p2 : Int32) (p3 : Int32) (M : Mem) : Option (Int32 × Mem) :=
  jn (fun (v1 : Int32) (M : Mem) =>
    bd (f_X10_isSlot p1 M) fun x3 M =>
    if x3 = 0 then
      some ((-1000000001), M)
    else
      if v1 = 0 then
        some ((-1000000001), M)
      else
        jn (fun (M : Mem) =>
          vv (grf G2 o 7) fun x5 =>
          ld M x5 p1 5 fun x6 =>
          vv (grf G2 o 7) fun x7 =>
          st M x7 p1 5 p2 fun M =>
          vv (grf G2 o 8) fun x8 =>
          jn (fun (v9 : Int32) (M : Mem) =>
            st M x8 p1 5 v9 fun M =>
            vv (grf G2 o 9) fun x11 =>
            jn (fun (v12 : Int32) (M : Mem) =>
              st M x11 p1 5 v12 fun M =>
              if p2 = 2 then
                vv (grf G2 o 10) fun x14 =>
                vv (grf G2 o 5) fun x15 =>
                ld M x15 p3 4 fun x16 =>
                st M x14 p1 5 x16 fun M =>
                it1 (fun rc18 (v17 : Int32) M =>
                  if v17 < 24 then
                    vv (grf G2 o 11) fun x19 =>
                    vv (grf G2 o 6) fun x20 =>
                    ld M x20 ((24 * p3) + v17) 96 fun x21 =>
                    st M x19 ((24 * p1) + v17) 120 x21 fun M =>
                    rc18 (v17 + 1) M
                  else
                    some (x6, M)
                ) fuel 0 M
              else
                some (x6, M)
            ) fun k13 =>
            if p2 = 1 then
              vv (grf G2 o 0) fun x22 =>
              bd (f_X10_figureAt o p3 M) fun x23 M =>
              ld M x22 (x23 + 3) 3510 fun x24 =>
              k13 x24 M
            else
              k13 0 M
          ) fun k10 =>
          if p2 = 1 then
            vv (grf G2 o 0) fun x25 =>
            bd (f_X10_figureAt o p3 M) fun x26 M =>
            ld M x25 (x26 + 1) 3510 fun x27 =>
            k10 x27 M
          else
            k10 p3 M
        ) fun k4 =>
        if p2 = 2 then
          vv (grf G2 o 4) fun x28 =>
          ld M x28 p3 4 fun x29 =>
          if x29 < 0 then
            some ((-1000000011), M)
          else
            k4 M
        else
          k4 M
  ) fun k2 =>
  if p2 = 0 then
    k2 1 M
  else
    if p2 = 3 then
      k2 1 M
    else
      jn (fun (M : Mem) =>
        if p2 = 2 then
          bd (f_X10_isSheet p3 M) fun x31 M =>
          if x31 = 0 then
            k2 0 M
          else
            k2 1 M
        else
          k2 0 M
      ) fun k30 =>
      if p2 = 1 then
        bd (f_X10_isFigure o p3 M) fun x32 M =>
        if x32 = 0 then
          k30 M
        else
          k2 1 M
      else
        k30 M
def rm_X10_lay : Room := { frames := 2, cells := 0, slots := 0, locals := 46 }
set_option maxHeartbeats 4000000 in
set_option maxRecDepth 100000 in
theorem c_X10_lay {l : Launch} {D : va_G} {K : Ks} {ad : Nat → Nat} {A : Nat → Prop} (hG : Gok G2 ad A) {o : Nat} {p1 : Int32} {p2 : Int32} {p3 : Int32} (h0 : gcl G2 o = 10) {M : Mem} {r : Int32} {M' : Mem} (hf : f_X10_lay o p1 p2 p3 M = some (r, M')) : Ct l E2 D K G2 ad A yX10_lay (ws_of yX10_lay cX10_lay 7 (some .int)) rm_X10_lay .int [.ref (ad o), .int p1, .int p2, .int p3] M r M' := by
  have hst : Est A E2 := est2
  refine Ct.ofW (by decide) (Nat.le_of_ble_eq_true rfl) ?_
  intro p e s m args below meth c Q H locs ls S hK hE hP hS hl hret
  have hx := S.1
  have hb := S.2.1
  have hown := S.2.2.2.1
  have ht := S.2.2.2.2
  have hl : lv_has ls 7 [(0, .ref (ad o)), (1, .int p1), (2, .int p2), (3, .int p3)] := hl
  unfold f_X10_lay at hf
  refine lv_iload_n hx hb dX10_lay_0 rfl (lv_at hl 2 rfl) ?_
  obtain ⟨k2, hk2, hf⟩ := jn_w hf
  have J2 : ∀ (v1 : Int32) (M : Mem) (H : Heap) (locs : List Loc) (ls : Array Slot), lv_has ls 7 [(0, .ref (ad o)), (1, .int p1), (2, .int p2), (3, .int p3)] → va_P D classes (gws K G2 ad M) H → va_S A s.heap H locs → k2 v1 M = some (r, M') → W p l e rm_X10_lay s m args below meth c H locs 0 0 Q (F0 m 39 ls [.int v1]) := by
    intro v1 M H locs ls hl hP hS hf
    rw [hk2] at hf
    refine lv_istore (lv' := [(4, .int v1), (0, .ref (ad o)), (1, .int p1), (2, .int p2), (3, .int p3)]) hx hb dX10_lay_39 hl (by decide) rfl (fun ls hl => ?_)
    refine lv_iload_n hx hb dX10_lay_41 rfl (lv_at hl 2 rfl) ?_
    refine r_callS (As := [.int p1]) (rest := []) S hK hE hst hP hS (cw_X10_375 ht ⟨Nat.le_of_ble_eq_true rfl, Nat.le_of_ble_eq_true rfl⟩) rfl hl.1 rfl (Nat.le_of_ble_eq_true rfl) dX10_lay_42 z2 (fun _ _ h => c_X10_isSlot hG  h) hf (fun x3 M H locs hP hS bx3 hf => ?_)
    refine r_if_eq (tgt := 53) S dX10_lay_45 (by decide) hf (fun hf => ?_) (fun hf => ?_)
    · refine lv_ldc (v := (-1000000001)) hx hb hown (ht _ k_1232) dX10_lay_53 ?_
      exact hret _ _ _ _ _ _ dX10_lay_55 hP hS rfl hf
    · refine lv_iload hx hb dX10_lay_48 (lv_at hl 0 rfl) ?_
      refine r_if_ne (tgt := 56) S dX10_lay_50 (by decide) hf (fun hf => ?_) (fun hf => ?_)
      · refine lv_iload_n hx hb dX10_lay_56 rfl (lv_at hl 3 rfl) ?_
        refine lv_iconst (v := 2) hx hb dX10_lay_57 (by decide) ?_
        obtain ⟨k4, hk4, hf⟩ := jn_w hf
        have J4 : ∀ (M : Mem) (H : Heap) (locs : List Loc) (ls : Array Slot), lv_has ls 7 [(0, .ref (ad o)), (1, .int p1), (2, .int p2), (3, .int p3)] → va_P D classes (gws K G2 ad M) H → va_S A s.heap H locs → k4 M = some (r, M') → W p l e rm_X10_lay s m args below meth c H locs 0 0 Q (F0 m 74 ls []) := by
          intro M H locs ls hl hP hS hf
          rw [hk4] at hf
          refine lv_aload_n hx hb dX10_lay_74 rfl (lv_at hl 0 rfl) ?_
          refine gf_X10_28 S hK hP h0 dX10_lay_75 hf (fun x5 hx5 hf => ?_)
          refine lv_iload_n hx hb dX10_lay_78 rfl (lv_at hl 1 rfl) ?_
          refine r_iald S hK hP hx5 dX10_lay_79 hf (fun x6 hf => ?_)
          refine lv_istore (lv' := [(5, .int x6), (0, .ref (ad o)), (1, .int p1), (2, .int p2), (3, .int p3)]) hx hb dX10_lay_80 hl (by decide) rfl (fun ls hl => ?_)
          refine lv_aload_n hx hb dX10_lay_82 rfl (lv_at hl 1 rfl) ?_
          refine gf_X10_28 S hK hP h0 dX10_lay_83 hf (fun x7 hx7 hf => ?_)
          refine lv_iload_n hx hb dX10_lay_86 rfl (lv_at hl 2 rfl) ?_
          refine lv_iload_n hx hb dX10_lay_87 rfl (lv_at hl 3 rfl) ?_
          refine r_iast S hK hG hP hS hx7 dX10_lay_88 hf (fun M H locs hP hS hf => ?_)
          refine lv_aload_n hx hb dX10_lay_89 rfl (lv_at hl 1 rfl) ?_
          refine gf_X10_31 S hK hP h0 dX10_lay_90 hf (fun x8 hx8 hf => ?_)
          refine lv_iload_n hx hb dX10_lay_93 rfl (lv_at hl 2 rfl) ?_
          refine lv_iload_n hx hb dX10_lay_94 rfl (lv_at hl 3 rfl) ?_
          refine lv_iconst (v := 1) hx hb dX10_lay_95 (by decide) ?_
          obtain ⟨k10, hk10, hf⟩ := jn_w hf
          have J10 : ∀ (v9 : Int32) (M : Mem) (H : Heap) (locs : List Loc) (ls : Array Slot), lv_has ls 7 [(0, .ref (ad o)), (1, .int p1), (2, .int p2), (3, .int p3), (5, .int x6)] → va_P D classes (gws K G2 ad M) H → va_S A s.heap H locs → k10 v9 M = some (r, M') → W p l e rm_X10_lay s m args below meth c H locs 0 0 Q (F0 m 115 ls [.int v9, .int p1, .ref (ad x8)]) := by
            intro v9 M H locs ls hl hP hS hf
            rw [hk10] at hf
            refine r_iast S hK hG hP hS hx8 dX10_lay_115 hf (fun M H locs hP hS hf => ?_)
            refine lv_aload_n hx hb dX10_lay_116 rfl (lv_at hl 0 rfl) ?_
            refine gf_X10_34 S hK hP h0 dX10_lay_117 hf (fun x11 hx11 hf => ?_)
            refine lv_iload_n hx hb dX10_lay_120 rfl (lv_at hl 1 rfl) ?_
            refine lv_iload_n hx hb dX10_lay_121 rfl (lv_at hl 2 rfl) ?_
            refine lv_iconst (v := 1) hx hb dX10_lay_122 (by decide) ?_
            obtain ⟨k13, hk13, hf⟩ := jn_w hf
            have J13 : ∀ (v12 : Int32) (M : Mem) (H : Heap) (locs : List Loc) (ls : Array Slot), lv_has ls 7 [(0, .ref (ad o)), (1, .int p1), (2, .int p2), (3, .int p3), (5, .int x6)] → va_P D classes (gws K G2 ad M) H → va_S A s.heap H locs → k13 v12 M = some (r, M') → W p l e rm_X10_lay s m args below meth c H locs 0 0 Q (F0 m 142 ls [.int v12, .int p1, .ref (ad x11)]) := by
              intro v12 M H locs ls hl hP hS hf
              rw [hk13] at hf
              refine r_iast S hK hG hP hS hx11 dX10_lay_142 hf (fun M H locs hP hS hf => ?_)
              refine lv_iload_n hx hb dX10_lay_143 rfl (lv_at hl 2 rfl) ?_
              refine lv_iconst (v := 2) hx hb dX10_lay_144 (by decide) ?_
              refine r_icmp_ne (tgt := 200) S dX10_lay_145 (by decide) hf (fun hf => ?_) (fun hf => ?_)
              · refine lv_iload hx hb dX10_lay_200 (lv_at hl 4 rfl) ?_
                exact hret _ _ _ _ _ _ dX10_lay_202 hP hS rfl hf
              · refine lv_aload_n hx hb dX10_lay_148 rfl (lv_at hl 0 rfl) ?_
                refine gf_X10_37 S hK hP h0 dX10_lay_149 hf (fun x14 hx14 hf => ?_)
                refine lv_iload_n hx hb dX10_lay_152 rfl (lv_at hl 1 rfl) ?_
                refine lv_aload_n hx hb dX10_lay_153 rfl (lv_at hl 0 rfl) ?_
                refine gf_X10_22 S hK hP h0 dX10_lay_154 hf (fun x15 hx15 hf => ?_)
                refine lv_iload_n hx hb dX10_lay_157 rfl (lv_at hl 3 rfl) ?_
                refine r_iald S hK hP hx15 dX10_lay_158 hf (fun x16 hf => ?_)
                refine r_iast S hK hG hP hS hx14 dX10_lay_159 hf (fun M H locs hP hS hf => ?_)
                refine lv_iconst (v := 0) hx hb dX10_lay_160 (by decide) ?_
                refine lv_istore (lv' := [(6, .int 0), (0, .ref (ad o)), (1, .int p1), (2, .int p2), (3, .int p3), (5, .int x6)]) hx hb dX10_lay_161 hl (by decide) rfl (fun ls hl => ?_)
                obtain ⟨F18, hF18, hf⟩ := it1_g hf
                have L18 : ∀ (n : Nat) (v17 : Int32) (M : Mem) (H : Heap) (locs : List Loc) (ls : Array Slot), lv_has ls 7 [(0, .ref (ad o)), (1, .int p1), (3, .int p3), (5, .int x6), (6, .int v17)] → va_P D classes (gws K G2 ad M) H → va_S A s.heap H locs → it1 F18 n v17 M = some (r, M') → W p l e rm_X10_lay s m args below meth c H locs 0 0 Q (F0 m 163 ls []) := by
                  intro n
                  induction n with
                  | zero => intro v17 M H locs ls hl hP hS hf; exact nomatch hf
                  | succ n ih18 =>
                    intro v17 M H locs ls hl hP hS hf
                    obtain ⟨rc18, hrc18, hf⟩ := it1_w hf
                    rw [← hrc18] at ih18
                    rw [hF18] at hf
                    refine lv_iload hx hb dX10_lay_163 (lv_at hl 4 rfl) ?_
                    refine lv_bipush (v := 24) hx hb dX10_lay_165 (by decide) ?_
                    refine r_icmp_ge (tgt := 200) S dX10_lay_167 (by decide) hf (fun hf => ?_) (fun hf => ?_)
                    · refine lv_iload hx hb dX10_lay_200 (lv_at hl 3 rfl) ?_
                      exact hret _ _ _ _ _ _ dX10_lay_202 hP hS rfl hf
                    · refine lv_aload_n hx hb dX10_lay_170 rfl (lv_at hl 0 rfl) ?_
                      refine gf_X10_40 S hK hP h0 dX10_lay_171 hf (fun x19 hx19 hf => ?_)
                      refine lv_bipush (v := 24) hx hb dX10_lay_174 (by decide) ?_
                      refine lv_iload_n hx hb dX10_lay_176 rfl (lv_at hl 1 rfl) ?_
                      refine lv_imul hx hb dX10_lay_177 ?_
                      refine lv_iload hx hb dX10_lay_178 (lv_at hl 4 rfl) ?_
                      refine lv_iadd hx hb dX10_lay_180 ?_
                      refine lv_aload_n hx hb dX10_lay_181 rfl (lv_at hl 0 rfl) ?_
                      refine gf_X10_25 S hK hP h0 dX10_lay_182 hf (fun x20 hx20 hf => ?_)
                      refine lv_bipush (v := 24) hx hb dX10_lay_185 (by decide) ?_
                      refine lv_iload_n hx hb dX10_lay_187 rfl (lv_at hl 2 rfl) ?_
                      refine lv_imul hx hb dX10_lay_188 ?_
                      refine lv_iload hx hb dX10_lay_189 (lv_at hl 4 rfl) ?_
                      refine lv_iadd hx hb dX10_lay_191 ?_
                      refine r_iald S hK hP hx20 dX10_lay_192 hf (fun x21 hf => ?_)
                      refine r_iast S hK hG hP hS hx19 dX10_lay_193 hf (fun M H locs hP hS hf => ?_)
                      refine lv_iinc (v := (v17 + 1)) (lv' := [(6, .int (v17 + 1)), (0, .ref (ad o)), (1, .int p1), (3, .int p3), (5, .int x6)]) hx hb dX10_lay_194 hl (k := 4) rfl rfl (by decide) rfl (fun ls hl => ?_)
                      refine lv_goto (tgt := 163) hx hb dX10_lay_197 (by decide) ?_
                      exact ih18 (v17 + 1) M H locs ls (lv_sub hl [1, 2, 3, 4, 0] rfl) hP hS hf
                exact L18 _ 0 M H locs ls (lv_sub hl [1, 2, 4, 5, 0] rfl) hP hS hf
            refine r_icmp_ne (tgt := 141) S dX10_lay_123 (by decide) hf (fun hf => ?_) (fun hf => ?_)
            · refine lv_iconst (v := 0) hx hb dX10_lay_141 (by decide) ?_
              exact J13 0 M H locs ls (lv_sub hl [0, 1, 2, 3, 4] rfl) hP hS hf
            · refine lv_aload_n hx hb dX10_lay_126 rfl (lv_at hl 0 rfl) ?_
              refine gf_X10_7 S hK hP h0 dX10_lay_127 hf (fun x22 hx22 hf => ?_)
              refine lv_aload_n hx hb dX10_lay_130 rfl (lv_at hl 0 rfl) ?_
              refine lv_iload_n hx hb dX10_lay_131 rfl (lv_at hl 3 rfl) ?_
              refine r_callV (As := [.int p3]) (rest := [.ref (ad x22), .int p1, .ref (ad x11)]) S hK hE hst hP hS h0 (by decide) rfl (cw_X10_87 ht ⟨Nat.le_of_ble_eq_true rfl, Nat.le_of_ble_eq_true rfl⟩) rfl hl.1 rfl (Nat.le_of_ble_eq_true rfl) dX10_lay_132 z2 (fun _ _ h => c_X10_figureAt hG  h0 h) hf (fun x23 M H locs hP hS bx23 hf => ?_)
              refine lv_iconst (v := 3) hx hb dX10_lay_135 (by decide) ?_
              refine lv_iadd hx hb dX10_lay_136 ?_
              refine r_iald S hK hP hx22 dX10_lay_137 hf (fun x24 hf => ?_)
              refine lv_goto (tgt := 142) hx hb dX10_lay_138 (by decide) ?_
              exact J13 x24 M H locs ls (lv_sub hl [0, 1, 2, 3, 4] rfl) hP hS hf
          refine r_icmp_ne (tgt := 114) S dX10_lay_96 (by decide) hf (fun hf => ?_) (fun hf => ?_)
          · refine lv_iload_n hx hb dX10_lay_114 rfl (lv_at hl 4 rfl) ?_
            exact J10 p3 M H locs ls (lv_sub hl [1, 2, 3, 4, 0] rfl) hP hS hf
          · refine lv_aload_n hx hb dX10_lay_99 rfl (lv_at hl 1 rfl) ?_
            refine gf_X10_7 S hK hP h0 dX10_lay_100 hf (fun x25 hx25 hf => ?_)
            refine lv_aload_n hx hb dX10_lay_103 rfl (lv_at hl 1 rfl) ?_
            refine lv_iload_n hx hb dX10_lay_104 rfl (lv_at hl 4 rfl) ?_
            refine r_callV (As := [.int p3]) (rest := [.ref (ad x25), .int p1, .ref (ad x8)]) S hK hE hst hP hS h0 (by decide) rfl (cw_X10_87 ht ⟨Nat.le_of_ble_eq_true rfl, Nat.le_of_ble_eq_true rfl⟩) rfl hl.1 rfl (Nat.le_of_ble_eq_true rfl) dX10_lay_105 z2 (fun _ _ h => c_X10_figureAt hG  h0 h) hf (fun x26 M H locs hP hS bx26 hf => ?_)
            refine lv_iconst (v := 1) hx hb dX10_lay_108 (by decide) ?_
            refine lv_iadd hx hb dX10_lay_109 ?_
            refine r_iald S hK hP hx25 dX10_lay_110 hf (fun x27 hf => ?_)
            refine lv_goto (tgt := 115) hx hb dX10_lay_111 (by decide) ?_
            exact J10 x27 M H locs ls (lv_sub hl [1, 2, 3, 4, 0] rfl) hP hS hf
        refine r_icmp_ne (tgt := 74) S dX10_lay_58 (by decide) hf (fun hf => ?_) (fun hf => ?_)
        · exact J4 M H locs ls (lv_sub hl [1, 2, 3, 4] rfl) hP hS hf
        · refine lv_aload_n hx hb dX10_lay_61 rfl (lv_at hl 1 rfl) ?_
          refine gf_X10_19 S hK hP h0 dX10_lay_62 hf (fun x28 hx28 hf => ?_)
          refine lv_iload_n hx hb dX10_lay_65 rfl (lv_at hl 4 rfl) ?_
          refine r_iald S hK hP hx28 dX10_lay_66 hf (fun x29 hf => ?_)
          refine r_if_ge (tgt := 74) S dX10_lay_67 (by decide) hf (fun hf => ?_) (fun hf => ?_)
          · exact J4 M H locs ls (lv_sub hl [1, 2, 3, 4] rfl) hP hS hf
          · refine lv_ldcw (v := (-1000000011)) hx hb hown (ht _ k_1612) dX10_lay_70 ?_
            exact hret _ _ _ _ _ _ dX10_lay_73 hP hS rfl hf
      · refine lv_ldc (v := (-1000000001)) hx hb hown (ht _ k_1232) dX10_lay_53 ?_
        exact hret _ _ _ _ _ _ dX10_lay_55 hP hS rfl hf
  refine r_if_eq (tgt := 34) S dX10_lay_1 (by decide) hf (fun hf => ?_) (fun hf => ?_)
  · refine lv_iconst (v := 1) hx hb dX10_lay_34 (by decide) ?_
    refine lv_goto (tgt := 39) hx hb dX10_lay_35 (by decide) ?_
    exact J2 1 M H locs ls (lv_sub hl [0, 1, 2, 3] rfl) hP hS hf
  · refine lv_iload_n hx hb dX10_lay_4 rfl (lv_at hl 2 rfl) ?_
    refine lv_iconst (v := 3) hx hb dX10_lay_5 (by decide) ?_
    refine r_icmp_eq (tgt := 34) S dX10_lay_6 (by decide) hf (fun hf => ?_) (fun hf => ?_)
    · refine lv_iconst (v := 1) hx hb dX10_lay_34 (by decide) ?_
      refine lv_goto (tgt := 39) hx hb dX10_lay_35 (by decide) ?_
      exact J2 1 M H locs ls (lv_sub hl [0, 1, 2, 3] rfl) hP hS hf
    · refine lv_iload_n hx hb dX10_lay_9 rfl (lv_at hl 2 rfl) ?_
      refine lv_iconst (v := 1) hx hb dX10_lay_10 (by decide) ?_
      obtain ⟨k30, hk30, hf⟩ := jn_w hf
      have J30 : ∀ (M : Mem) (H : Heap) (locs : List Loc) (ls : Array Slot), lv_has ls 7 [(0, .ref (ad o)), (1, .int p1), (2, .int p2), (3, .int p3)] → va_P D classes (gws K G2 ad M) H → va_S A s.heap H locs → k30 M = some (r, M') → W p l e rm_X10_lay s m args below meth c H locs 0 0 Q (F0 m 22 ls []) := by
        intro M H locs ls hl hP hS hf
        rw [hk30] at hf
        refine lv_iload_n hx hb dX10_lay_22 rfl (lv_at hl 2 rfl) ?_
        refine lv_iconst (v := 2) hx hb dX10_lay_23 (by decide) ?_
        refine r_icmp_ne (tgt := 38) S dX10_lay_24 (by decide) hf (fun hf => ?_) (fun hf => ?_)
        · refine lv_iconst (v := 0) hx hb dX10_lay_38 (by decide) ?_
          exact J2 0 M H locs ls (lv_sub hl [0, 1, 2, 3] rfl) hP hS hf
        · refine lv_iload_n hx hb dX10_lay_27 rfl (lv_at hl 3 rfl) ?_
          refine r_callS (As := [.int p3]) (rest := []) S hK hE hst hP hS (cw_X10_363 ht ⟨Nat.le_of_ble_eq_true rfl, Nat.le_of_ble_eq_true rfl⟩) rfl hl.1 rfl (Nat.le_of_ble_eq_true rfl) dX10_lay_28 z2 (fun _ _ h => c_X10_isSheet hG  h) hf (fun x31 M H locs hP hS bx31 hf => ?_)
          refine r_if_eq (tgt := 38) S dX10_lay_31 (by decide) hf (fun hf => ?_) (fun hf => ?_)
          · refine lv_iconst (v := 0) hx hb dX10_lay_38 (by decide) ?_
            exact J2 0 M H locs ls (lv_sub hl [0, 1, 2, 3] rfl) hP hS hf
          · refine lv_iconst (v := 1) hx hb dX10_lay_34 (by decide) ?_
            refine lv_goto (tgt := 39) hx hb dX10_lay_35 (by decide) ?_
            exact J2 1 M H locs ls (lv_sub hl [0, 1, 2, 3] rfl) hP hS hf
      refine r_icmp_ne (tgt := 22) S dX10_lay_11 (by decide) hf (fun hf => ?_) (fun hf => ?_)
      · exact J30 M H locs ls (lv_sub hl [0, 1, 2, 3] rfl) hP hS hf
      · refine lv_aload_n hx hb dX10_lay_14 rfl (lv_at hl 0 rfl) ?_
        refine lv_iload_n hx hb dX10_lay_15 rfl (lv_at hl 3 rfl) ?_
        refine r_callV (As := [.int p3]) (rest := []) S hK hE hst hP hS h0 (by decide) rfl (cw_X10_102 ht ⟨Nat.le_of_ble_eq_true rfl, Nat.le_of_ble_eq_true rfl⟩) rfl hl.1 rfl (Nat.le_of_ble_eq_true rfl) dX10_lay_16 z2 (fun _ _ h => c_X10_isFigure hG  h0 h) hf (fun x32 M H locs hP hS bx32 hf => ?_)
        refine r_if_ne (tgt := 34) S dX10_lay_19 (by decide) hf (fun hf => ?_) (fun hf => ?_)
        · refine lv_iconst (v := 1) hx hb dX10_lay_34 (by decide) ?_
          refine lv_goto (tgt := 39) hx hb dX10_lay_35 (by decide) ?_
          exact J2 1 M H locs ls (lv_sub hl [0, 1, 2, 3] rfl) hP hS hf
        · exact J30 M H locs ls (lv_sub hl [0, 1, 2, 3] rfl) hP hS hf
def f_X10_ask (o : Nat) (p1 : Int32) (p2 : Int32) (M : Mem) : Option (Int32 × Mem) :=
  bd (f_X10_isSlot p1 M) fun x1 M =>
  if x1 = 0 then
    some ((-1000000001), M)
  else
    bd (f_X10_isIn (Int32.toInt64 p2) 0 7 M) fun x2 M =>
    if x2 = 0 then
      some ((-1000000001), M)
    else
      vv (grf G2 o 7) fun x3 =>
      ld M x3 p1 5 fun x4 =>
      if x4 = 0 then
        some ((-1000000011), M)
      else
        vv (grf G2 o 7) fun x5 =>
        ld M x5 p1 5 fun x6 =>
        if x6 = 1 then
          vv (grf G2 o 8) fun x7 =>
          ld M x7 p1 5 fun x8 =>
          bd (f_X10_isOf x8 p2 M) fun x9 M =>
          if x9 = 0 then
            some ((-1000000012), M)
          else
            vv (grf G2 o 8) fun x10 =>
            ld M x10 p1 5 fun x11 =>
            vv (grf G2 o 9) fun x12 =>
            ld M x12 p1 5 fun x13 =>
            bd (f_X10_priceOf x11 x13 M) fun x14 M =>
            some (x14, M)
        else
          some ((-1000000012), M)
def rm_X10_ask : Room := { frames := 2, cells := 0, slots := 0, locals := 45 }
set_option maxHeartbeats 4000000 in
set_option maxRecDepth 100000 in
theorem c_X10_ask {l : Launch} {D : va_G} {K : Ks} {ad : Nat → Nat} {A : Nat → Prop} (hG : Gok G2 ad A) {o : Nat} {p1 : Int32} {p2 : Int32} (h0 : gcl G2 o = 10) {M : Mem} {r : Int32} {M' : Mem} (hf : f_X10_ask o p1 p2 M = some (r, M')) : Ct l E2 D K G2 ad A yX10_ask (ws_of yX10_ask cX10_ask 3 (some .int)) rm_X10_ask .int [.ref (ad o), .int p1, .int p2] M r M' := by
  have hst : Est A E2 := est2
  refine Ct.ofW (by decide) (Nat.le_of_ble_eq_true rfl) ?_
  intro p e s m args below meth c Q H locs ls S hK hE hP hS hl hret
  have hx := S.1
  have hb := S.2.1
  have hown := S.2.2.2.1
  have ht := S.2.2.2.2
  have hl : lv_has ls 3 [(0, .ref (ad o)), (1, .int p1), (2, .int p2)] := hl
  unfold f_X10_ask at hf
  refine lv_iload_n hx hb dX10_ask_0 rfl (lv_at hl 1 rfl) ?_
  refine r_callS (As := [.int p1]) (rest := []) S hK hE hst hP hS (cw_X10_375 ht ⟨Nat.le_of_ble_eq_true rfl, Nat.le_of_ble_eq_true rfl⟩) rfl hl.1 rfl (Nat.le_of_ble_eq_true rfl) dX10_ask_1 z2 (fun _ _ h => c_X10_isSlot hG  h) hf (fun x1 M H locs hP hS bx1 hf => ?_)
  refine r_if_eq (tgt := 19) S dX10_ask_4 (by decide) hf (fun hf => ?_) (fun hf => ?_)
  · refine lv_ldc (v := (-1000000001)) hx hb hown (ht _ k_1232) dX10_ask_19 ?_
    exact hret _ _ _ _ _ _ dX10_ask_21 hP hS rfl hf
  · refine lv_iload_n hx hb dX10_ask_7 rfl (lv_at hl 2 rfl) ?_
    refine lv_i2l (v := (Int32.toInt64 p2)) hx hb dX10_ask_8 rfl ?_
    refine lv_lconst (v := 0) hx hb dX10_ask_9 (by decide) ?_
    refine lv_ldc2 (v := 7) hx hb hown (ht _ k_1243) dX10_ask_10 ?_
    refine r_callS (As := [.long (Int32.toInt64 p2), .long 0, .long 7]) (rest := []) S hK hE hst hP hS (cw_X10_74 ht ⟨Nat.le_of_ble_eq_true rfl, Nat.le_of_ble_eq_true rfl⟩) rfl hl.1 rfl (Nat.le_of_ble_eq_true rfl) dX10_ask_13 z2 (fun _ _ h => c_X10_isIn hG  h) hf (fun x2 M H locs hP hS bx2 hf => ?_)
    refine r_if_ne (tgt := 22) S dX10_ask_16 (by decide) hf (fun hf => ?_) (fun hf => ?_)
    · refine lv_aload_n hx hb dX10_ask_22 rfl (lv_at hl 0 rfl) ?_
      refine gf_X10_28 S hK hP h0 dX10_ask_23 hf (fun x3 hx3 hf => ?_)
      refine lv_iload_n hx hb dX10_ask_26 rfl (lv_at hl 1 rfl) ?_
      refine r_iald S hK hP hx3 dX10_ask_27 hf (fun x4 hf => ?_)
      refine r_if_ne (tgt := 35) S dX10_ask_28 (by decide) hf (fun hf => ?_) (fun hf => ?_)
      · refine lv_aload_n hx hb dX10_ask_35 rfl (lv_at hl 0 rfl) ?_
        refine gf_X10_28 S hK hP h0 dX10_ask_36 hf (fun x5 hx5 hf => ?_)
        refine lv_iload_n hx hb dX10_ask_39 rfl (lv_at hl 1 rfl) ?_
        refine r_iald S hK hP hx5 dX10_ask_40 hf (fun x6 hf => ?_)
        refine lv_iconst (v := 1) hx hb dX10_ask_41 (by decide) ?_
        refine r_icmp_ne (tgt := 76) S dX10_ask_42 (by decide) hf (fun hf => ?_) (fun hf => ?_)
        · refine lv_ldc (v := (-1000000012)) hx hb hown (ht _ k_1322) dX10_ask_76 ?_
          exact hret _ _ _ _ _ _ dX10_ask_78 hP hS rfl hf
        · refine lv_aload_n hx hb dX10_ask_45 rfl (lv_at hl 0 rfl) ?_
          refine gf_X10_31 S hK hP h0 dX10_ask_46 hf (fun x7 hx7 hf => ?_)
          refine lv_iload_n hx hb dX10_ask_49 rfl (lv_at hl 1 rfl) ?_
          refine r_iald S hK hP hx7 dX10_ask_50 hf (fun x8 hf => ?_)
          refine lv_iload_n hx hb dX10_ask_51 rfl (lv_at hl 2 rfl) ?_
          refine r_callS (As := [.int x8, .int p2]) (rest := []) S hK hE hst hP hS (cw_X10_151 ht ⟨Nat.le_of_ble_eq_true rfl, Nat.le_of_ble_eq_true rfl⟩) rfl hl.1 rfl (Nat.le_of_ble_eq_true rfl) dX10_ask_52 z2 (fun _ _ h => c_X10_isOf hG  h) hf (fun x9 M H locs hP hS bx9 hf => ?_)
          refine r_if_eq (tgt := 76) S dX10_ask_55 (by decide) hf (fun hf => ?_) (fun hf => ?_)
          · refine lv_ldc (v := (-1000000012)) hx hb hown (ht _ k_1322) dX10_ask_76 ?_
            exact hret _ _ _ _ _ _ dX10_ask_78 hP hS rfl hf
          · refine lv_aload_n hx hb dX10_ask_58 rfl (lv_at hl 0 rfl) ?_
            refine gf_X10_31 S hK hP h0 dX10_ask_59 hf (fun x10 hx10 hf => ?_)
            refine lv_iload_n hx hb dX10_ask_62 rfl (lv_at hl 1 rfl) ?_
            refine r_iald S hK hP hx10 dX10_ask_63 hf (fun x11 hf => ?_)
            refine lv_aload_n hx hb dX10_ask_64 rfl (lv_at hl 0 rfl) ?_
            refine gf_X10_34 S hK hP h0 dX10_ask_65 hf (fun x12 hx12 hf => ?_)
            refine lv_iload_n hx hb dX10_ask_68 rfl (lv_at hl 1 rfl) ?_
            refine r_iald S hK hP hx12 dX10_ask_69 hf (fun x13 hf => ?_)
            refine r_callS (As := [.int x11, .int x13]) (rest := []) S hK hE hst hP hS (cw_X10_148 ht ⟨Nat.le_of_ble_eq_true rfl, Nat.le_of_ble_eq_true rfl⟩) rfl hl.1 rfl (Nat.le_of_ble_eq_true rfl) dX10_ask_70 z2 (fun _ _ h => c_X10_priceOf hG  h) hf (fun x14 M H locs hP hS bx14 hf => ?_)
            refine lv_goto (tgt := 78) hx hb dX10_ask_73 (by decide) ?_
            exact hret _ _ _ _ _ _ dX10_ask_78 hP hS rfl hf
      · refine lv_ldcw (v := (-1000000011)) hx hb hown (ht _ k_1612) dX10_ask_31 ?_
        exact hret _ _ _ _ _ _ dX10_ask_34 hP hS rfl hf
    · refine lv_ldc (v := (-1000000001)) hx hb hown (ht _ k_1232) dX10_ask_19 ?_
      exact hret _ _ _ _ _ _ dX10_ask_21 hP hS rfl hf
def f_X10_item (o : Nat) (p1 : Int32) (p2 : Int32) (M : Mem) : Option (Int32 × Mem) :=
  bd (f_X10_isSlot p1 M) fun x1 M =>
  if x1 = 0 then
    some ((-1000000001), M)
  else
    vv (grf G2 o 7) fun x2 =>
    ld M x2 p1 5 fun x3 =>
    if x3 = 2 then
      vv (grf G2 o 10) fun x4 =>
      ld M x4 p1 5 fun x5 =>
      bd (f_X10_isIn (Int32.toInt64 p2) 0 (Int32.toInt64 (x5 - 1)) M) fun x6 M =>
      if x6 = 0 then
        some ((-1000000013), M)
      else
        vv (grf G2 o 11) fun x7 =>
        ld M x7 ((24 * p1) + p2) 120 fun x8 =>
        if x8 = (-1000000005) then
          some ((-1000000012), M)
        else
          some (x8, M)
    else
      vv (grf G2 o 7) fun x9 =>
      ld M x9 p1 5 fun x10 =>
      if x10 = 0 then
        some ((-1000000011), M)
      else
        some ((-1000000012), M)
def rm_X10_item : Room := { frames := 2, cells := 0, slots := 0, locals := 45 }
set_option maxHeartbeats 4000000 in
set_option maxRecDepth 100000 in
theorem c_X10_item {l : Launch} {D : va_G} {K : Ks} {ad : Nat → Nat} {A : Nat → Prop} (hG : Gok G2 ad A) {o : Nat} {p1 : Int32} {p2 : Int32} (h0 : gcl G2 o = 10) {M : Mem} {r : Int32} {M' : Mem} (hf : f_X10_item o p1 p2 M = some (r, M')) : Ct l E2 D K G2 ad A yX10_item (ws_of yX10_item cX10_item 4 (some .int)) rm_X10_item .int [.ref (ad o), .int p1, .int p2] M r M' := by
  have hst : Est A E2 := est2
  refine Ct.ofW (by decide) (Nat.le_of_ble_eq_true rfl) ?_
  intro p e s m args below meth c Q H locs ls S hK hE hP hS hl hret
  have hx := S.1
  have hb := S.2.1
  have hown := S.2.2.2.1
  have ht := S.2.2.2.2
  have hl : lv_has ls 4 [(0, .ref (ad o)), (1, .int p1), (2, .int p2)] := hl
  unfold f_X10_item at hf
  refine lv_iload_n hx hb dX10_item_0 rfl (lv_at hl 1 rfl) ?_
  refine r_callS (As := [.int p1]) (rest := []) S hK hE hst hP hS (cw_X10_375 ht ⟨Nat.le_of_ble_eq_true rfl, Nat.le_of_ble_eq_true rfl⟩) rfl hl.1 rfl (Nat.le_of_ble_eq_true rfl) dX10_item_1 z2 (fun _ _ h => c_X10_isSlot hG  h) hf (fun x1 M H locs hP hS bx1 hf => ?_)
  refine r_if_ne (tgt := 10) S dX10_item_4 (by decide) hf (fun hf => ?_) (fun hf => ?_)
  · refine lv_aload_n hx hb dX10_item_10 rfl (lv_at hl 0 rfl) ?_
    refine gf_X10_28 S hK hP h0 dX10_item_11 hf (fun x2 hx2 hf => ?_)
    refine lv_iload_n hx hb dX10_item_14 rfl (lv_at hl 1 rfl) ?_
    refine r_iald S hK hP hx2 dX10_item_15 hf (fun x3 hf => ?_)
    refine lv_iconst (v := 2) hx hb dX10_item_16 (by decide) ?_
    refine r_icmp_eq (tgt := 38) S dX10_item_17 (by decide) hf (fun hf => ?_) (fun hf => ?_)
    · refine lv_iload_n hx hb dX10_item_38 rfl (lv_at hl 2 rfl) ?_
      refine lv_i2l (v := (Int32.toInt64 p2)) hx hb dX10_item_39 rfl ?_
      refine lv_lconst (v := 0) hx hb dX10_item_40 (by decide) ?_
      refine lv_aload_n hx hb dX10_item_41 rfl (lv_at hl 0 rfl) ?_
      refine gf_X10_37 S hK hP h0 dX10_item_42 hf (fun x4 hx4 hf => ?_)
      refine lv_iload_n hx hb dX10_item_45 rfl (lv_at hl 1 rfl) ?_
      refine r_iald S hK hP hx4 dX10_item_46 hf (fun x5 hf => ?_)
      refine lv_iconst (v := 1) hx hb dX10_item_47 (by decide) ?_
      refine lv_isub hx hb dX10_item_48 ?_
      refine lv_i2l (v := (Int32.toInt64 (x5 - 1))) hx hb dX10_item_49 rfl ?_
      refine r_callS (As := [.long (Int32.toInt64 p2), .long 0, .long (Int32.toInt64 (x5 - 1))]) (rest := []) S hK hE hst hP hS (cw_X10_74 ht ⟨Nat.le_of_ble_eq_true rfl, Nat.le_of_ble_eq_true rfl⟩) rfl hl.1 rfl (Nat.le_of_ble_eq_true rfl) dX10_item_50 z2 (fun _ _ h => c_X10_isIn hG  h) hf (fun x6 M H locs hP hS bx6 hf => ?_)
      refine r_if_ne (tgt := 60) S dX10_item_53 (by decide) hf (fun hf => ?_) (fun hf => ?_)
      · refine lv_aload_n hx hb dX10_item_60 rfl (lv_at hl 0 rfl) ?_
        refine gf_X10_40 S hK hP h0 dX10_item_61 hf (fun x7 hx7 hf => ?_)
        refine lv_bipush (v := 24) hx hb dX10_item_64 (by decide) ?_
        refine lv_iload_n hx hb dX10_item_66 rfl (lv_at hl 1 rfl) ?_
        refine lv_imul hx hb dX10_item_67 ?_
        refine lv_iload_n hx hb dX10_item_68 rfl (lv_at hl 2 rfl) ?_
        refine lv_iadd hx hb dX10_item_69 ?_
        refine r_iald S hK hP hx7 dX10_item_70 hf (fun x8 hf => ?_)
        refine lv_istore_n (lv' := [(3, .int x8), (0, .ref (ad o)), (1, .int p1), (2, .int p2)]) hx hb dX10_item_71 rfl hl (by decide) rfl (fun ls hl => ?_)
        refine lv_iload_n hx hb dX10_item_72 rfl (lv_at hl 0 rfl) ?_
        refine lv_ldc (v := (-1000000005)) hx hb hown (ht _ k_1268) dX10_item_73 ?_
        refine r_icmp_ne (tgt := 83) S dX10_item_75 (by decide) hf (fun hf => ?_) (fun hf => ?_)
        · refine lv_iload_n hx hb dX10_item_83 rfl (lv_at hl 0 rfl) ?_
          exact hret _ _ _ _ _ _ dX10_item_84 hP hS rfl hf
        · refine lv_ldc (v := (-1000000012)) hx hb hown (ht _ k_1322) dX10_item_78 ?_
          refine lv_goto (tgt := 84) hx hb dX10_item_80 (by decide) ?_
          exact hret _ _ _ _ _ _ dX10_item_84 hP hS rfl hf
      · refine lv_ldcw (v := (-1000000013)) hx hb hown (ht _ k_1613) dX10_item_56 ?_
        exact hret _ _ _ _ _ _ dX10_item_59 hP hS rfl hf
    · refine lv_aload_n hx hb dX10_item_20 rfl (lv_at hl 0 rfl) ?_
      refine gf_X10_28 S hK hP h0 dX10_item_21 hf (fun x9 hx9 hf => ?_)
      refine lv_iload_n hx hb dX10_item_24 rfl (lv_at hl 1 rfl) ?_
      refine r_iald S hK hP hx9 dX10_item_25 hf (fun x10 hf => ?_)
      refine r_if_ne (tgt := 35) S dX10_item_26 (by decide) hf (fun hf => ?_) (fun hf => ?_)
      · refine lv_ldc (v := (-1000000012)) hx hb hown (ht _ k_1322) dX10_item_35 ?_
        exact hret _ _ _ _ _ _ dX10_item_37 hP hS rfl hf
      · refine lv_ldcw (v := (-1000000011)) hx hb hown (ht _ k_1612) dX10_item_29 ?_
        refine lv_goto (tgt := 37) hx hb dX10_item_32 (by decide) ?_
        exact hret _ _ _ _ _ _ dX10_item_37 hP hS rfl hf
  · refine lv_ldc (v := (-1000000001)) hx hb hown (ht _ k_1232) dX10_item_7 ?_
    exact hret _ _ _ _ _ _ dX10_item_9 hP hS rfl hf
def f_X10_rest (o : Nat) (p1 : Int32) (p2 : Int32) (M : Mem) : Option (Int32 × Mem) :=
  bd (f_X10_isSlot p1 M) fun x1 M =>
  if x1 = 0 then
    some ((-1000000001), M)
  else
    vv (grf G2 o 7) fun x2 =>
    ld M x2 p1 5 fun x3 =>
    if x3 = 3 then
      if p2 = 0 then
        some ((-1000000002), M)
      else
        vv (grf G2 o 8) fun x4 =>
        ld M x4 p1 5 fun x5 =>
        dv p2 <|
        some ((jr x5 p2), M)
    else
      vv (grf G2 o 7) fun x6 =>
      ld M x6 p1 5 fun x7 =>
      if x7 = 0 then
        some ((-1000000011), M)
      else
        some ((-1000000012), M)
def rm_X10_rest : Room := { frames := 2, cells := 0, slots := 0, locals := 45 }
set_option maxHeartbeats 4000000 in
set_option maxRecDepth 100000 in
theorem c_X10_rest {l : Launch} {D : va_G} {K : Ks} {ad : Nat → Nat} {A : Nat → Prop} (hG : Gok G2 ad A) {o : Nat} {p1 : Int32} {p2 : Int32} (h0 : gcl G2 o = 10) {M : Mem} {r : Int32} {M' : Mem} (hf : f_X10_rest o p1 p2 M = some (r, M')) : Ct l E2 D K G2 ad A yX10_rest (ws_of yX10_rest cX10_rest 3 (some .int)) rm_X10_rest .int [.ref (ad o), .int p1, .int p2] M r M' := by
  have hst : Est A E2 := est2
  refine Ct.ofW (by decide) (Nat.le_of_ble_eq_true rfl) ?_
  intro p e s m args below meth c Q H locs ls S hK hE hP hS hl hret
  have hx := S.1
  have hb := S.2.1
  have hown := S.2.2.2.1
  have ht := S.2.2.2.2
  have hl : lv_has ls 3 [(0, .ref (ad o)), (1, .int p1), (2, .int p2)] := hl
  unfold f_X10_rest at hf
  refine lv_iload_n hx hb dX10_rest_0 rfl (lv_at hl 1 rfl) ?_
  refine r_callS (As := [.int p1]) (rest := []) S hK hE hst hP hS (cw_X10_375 ht ⟨Nat.le_of_ble_eq_true rfl, Nat.le_of_ble_eq_true rfl⟩) rfl hl.1 rfl (Nat.le_of_ble_eq_true rfl) dX10_rest_1 z2 (fun _ _ h => c_X10_isSlot hG  h) hf (fun x1 M H locs hP hS bx1 hf => ?_)
  refine r_if_ne (tgt := 10) S dX10_rest_4 (by decide) hf (fun hf => ?_) (fun hf => ?_)
  · refine lv_aload_n hx hb dX10_rest_10 rfl (lv_at hl 0 rfl) ?_
    refine gf_X10_28 S hK hP h0 dX10_rest_11 hf (fun x2 hx2 hf => ?_)
    refine lv_iload_n hx hb dX10_rest_14 rfl (lv_at hl 1 rfl) ?_
    refine r_iald S hK hP hx2 dX10_rest_15 hf (fun x3 hf => ?_)
    refine lv_iconst (v := 3) hx hb dX10_rest_16 (by decide) ?_
    refine r_icmp_eq (tgt := 38) S dX10_rest_17 (by decide) hf (fun hf => ?_) (fun hf => ?_)
    · refine lv_iload_n hx hb dX10_rest_38 rfl (lv_at hl 2 rfl) ?_
      refine r_if_ne (tgt := 47) S dX10_rest_39 (by decide) hf (fun hf => ?_) (fun hf => ?_)
      · refine lv_aload_n hx hb dX10_rest_47 rfl (lv_at hl 0 rfl) ?_
        refine gf_X10_31 S hK hP h0 dX10_rest_48 hf (fun x4 hx4 hf => ?_)
        refine lv_iload_n hx hb dX10_rest_51 rfl (lv_at hl 1 rfl) ?_
        refine r_iald S hK hP hx4 dX10_rest_52 hf (fun x5 hf => ?_)
        refine lv_iload_n hx hb dX10_rest_53 rfl (lv_at hl 2 rfl) ?_
        refine r_irem S dX10_rest_54 hf (fun hf => ?_)
        exact hret _ _ _ _ _ _ dX10_rest_55 hP hS rfl hf
      · refine lv_ldc (v := (-1000000002)) hx hb hown (ht _ k_1233) dX10_rest_42 ?_
        refine lv_goto (tgt := 55) hx hb dX10_rest_44 (by decide) ?_
        exact hret _ _ _ _ _ _ dX10_rest_55 hP hS rfl hf
    · refine lv_aload_n hx hb dX10_rest_20 rfl (lv_at hl 0 rfl) ?_
      refine gf_X10_28 S hK hP h0 dX10_rest_21 hf (fun x6 hx6 hf => ?_)
      refine lv_iload_n hx hb dX10_rest_24 rfl (lv_at hl 1 rfl) ?_
      refine r_iald S hK hP hx6 dX10_rest_25 hf (fun x7 hf => ?_)
      refine r_if_ne (tgt := 35) S dX10_rest_26 (by decide) hf (fun hf => ?_) (fun hf => ?_)
      · refine lv_ldc (v := (-1000000012)) hx hb hown (ht _ k_1322) dX10_rest_35 ?_
        exact hret _ _ _ _ _ _ dX10_rest_37 hP hS rfl hf
      · refine lv_ldcw (v := (-1000000011)) hx hb hown (ht _ k_1612) dX10_rest_29 ?_
        refine lv_goto (tgt := 37) hx hb dX10_rest_32 (by decide) ?_
        exact hret _ _ _ _ _ _ dX10_rest_37 hP hS rfl hf
  · refine lv_ldc (v := (-1000000001)) hx hb hown (ht _ k_1232) dX10_rest_7 ?_
    exact hret _ _ _ _ _ _ dX10_rest_9 hP hS rfl hf
section
variable {p : Program} {l : Launch} {e : Env} {R : Room} {s : State} {m : MethodId} {args : Array Value} {below : List Frame} {meth : Method} {c : Code} {H : Heap} {locs : List Loc} {cells slots : Nat} {Q : State → Prop} {cc : ByteArray} {pc : Nat} {ls : Array Slot} {rest : List Value} {nL : Nat} {D : va_G} {K : Ks} {ad : Nat → Nat} {A : Nat → Prop} {M : Mem} {β : Type} {z : β}
theorem gf_X10_378 (S : CallFix p m c cc nL s args Tw RX10) (hK : va_K D classes (gty K) s) (hP : va_P D classes (gws K G2 ad M) H) {a : Nat} {kk : Int32 → Option β} (ha : gcl G2 a = 10) (hdg : decode cc pc = .ok (.getfield 378, 3)) (hf : vv (M a 37) kk = some z) (w : ∀ x, kk x = some z → W p l e R s m args below meth c H locs cells slots Q (F0 m (pc + 3) ls (.int x :: rest))) : W p l e R s m args below meth c H locs cells slots Q (F0 m pc ls (.ref (ad a) :: rest)) := r_geti S hK hP (T := TX10) inX10 rfl (by decide) (by decide) ha (sf_X10_37 ha) k_1143 hdg hf w
end
section
variable {p : Program} {l : Launch} {e : Env} {R : Room} {s : State} {m : MethodId} {args : Array Value} {below : List Frame} {meth : Method} {c : Code} {H : Heap} {locs : List Loc} {cells slots : Nat} {Q : State → Prop} {cc : ByteArray} {pc : Nat} {ls : Array Slot} {rest : List Value} {nL : Nat} {D : va_G} {K : Ks} {ad : Nat → Nat} {A : Nat → Prop} {M : Mem} {β : Type} {z : β}
theorem gf_X10_67 (S : CallFix p m c cc nL s args Tw RX10) (hK : va_K D classes (gty K) s) (hP : va_P D classes (gws K G2 ad M) H) {a : Nat} {kk : Nat → Option β} (ha : gcl G2 a = 10) (hdg : decode cc pc = .ok (.getfield 67, 3)) (hf : vv (grf G2 a 36) kk = some z) (w : ∀ b, gcl G2 b = 20 ∧ gsz G2 b = 60 → kk b = some z → W p l e R s m args below meth c H locs cells slots Q (F0 m (pc + 3) ls (.ref (ad b) :: rest))) : W p l e R s m args below meth c H locs cells slots Q (F0 m pc ls (.ref (ad a) :: rest)) := r_getr S hK hP (T := TX10) inX10 rfl (by decide) (by decide) ha (sf_X10_36 ha).1 k_1142 hdg hf (fun b e => w b (by rw [e]; exact (sf_X10_36 ha).2))
end
section
variable {p : Program} {l : Launch} {e : Env} {R : Room} {s : State} {m : MethodId} {args : Array Value} {below : List Frame} {meth : Method} {c : Code} {H : Heap} {locs : List Loc} {cells slots : Nat} {Q : State → Prop} {cc : ByteArray} {pc : Nat} {ls : Array Slot} {rest : List Value} {nL : Nat} {D : va_G} {K : Ks} {ad : Nat → Nat} {A : Nat → Prop} {M : Mem} {β : Type} {z : β}
theorem pf_X10_378 (S : CallFix p m c cc nL s args Tw RX10) (hK : va_K D classes (gty K) s) (hG : Gok G2 ad A) (hP : va_P D classes (gws K G2 ad M) H) (hS : va_S A s.heap H locs) {a : Nat} {v : Int32} {kk : Mem → Option β} (ha : gcl G2 a = 10) (hdg : decode cc pc = .ok (.putfield 378, 3)) (hf : mm (up M a 37 v) kk = some z) (w : ∀ M H locs, va_P D classes (gws K G2 ad M) H → va_S A s.heap H locs → kk M = some z → W p l e R s m args below meth c H locs cells slots Q (F0 m (pc + 3) ls rest)) : W p l e R s m args below meth c H locs cells slots Q (F0 m pc ls (.int v :: .ref (ad a) :: rest)) := r_putt S hK hG hP hS (k := 37) (T := TX10) inX10 rfl (by decide) tyX10 tyX10_ok nmX10 (by decide) rfl rfl rfl ha (sf_X10_37 ha) k_1143 hdg hf w
end
def f_X10_tell (o : Nat) (p1 : Int32) (M : Mem) : Option (Int32 × Mem) :=
  vv (M o 37) fun x1 =>
  if x1 = 60 then
    some ((-1000000003), M)
  else
    vv (grf G2 o 36) fun x2 =>
    vv (M o 37) fun x3 =>
    st M x2 x3 60 p1 fun M =>
    vv (M o 37) fun x4 =>
    mm (up M o 37 (x4 + 1)) fun M =>
    vv (M o 37) fun x5 =>
    some (x5, M)
def rm_X10_tell : Room := { frames := 0, cells := 0, slots := 0, locals := 0 }
set_option maxHeartbeats 4000000 in
set_option maxRecDepth 100000 in
theorem c_X10_tell {l : Launch} {D : va_G} {K : Ks} {ad : Nat → Nat} {A : Nat → Prop} (hG : Gok G2 ad A) {o : Nat} {p1 : Int32} (h0 : gcl G2 o = 10) {M : Mem} {r : Int32} {M' : Mem} (hf : f_X10_tell o p1 M = some (r, M')) : Ct l E2 D K G2 ad A yX10_tell (ws_of yX10_tell cX10_tell 2 (some .int)) rm_X10_tell .int [.ref (ad o), .int p1] M r M' := by
  have hst : Est A E2 := est2
  refine Ct.ofW (by decide) (Nat.le_of_ble_eq_true rfl) ?_
  intro p e s m args below meth c Q H locs ls S hK hE hP hS hl hret
  have hx := S.1
  have hb := S.2.1
  have hown := S.2.2.2.1
  have ht := S.2.2.2.2
  have hl : lv_has ls 2 [(0, .ref (ad o)), (1, .int p1)] := hl
  unfold f_X10_tell at hf
  refine lv_aload_n hx hb dX10_tell_0 rfl (lv_at hl 0 rfl) ?_
  refine gf_X10_378 S hK hP h0 dX10_tell_1 hf (fun x1 hf => ?_)
  refine lv_bipush (v := 60) hx hb dX10_tell_4 (by decide) ?_
  refine r_icmp_ne (tgt := 12) S dX10_tell_6 (by decide) hf (fun hf => ?_) (fun hf => ?_)
  · refine lv_aload_n hx hb dX10_tell_12 rfl (lv_at hl 0 rfl) ?_
    refine gf_X10_67 S hK hP h0 dX10_tell_13 hf (fun x2 hx2 hf => ?_)
    refine lv_aload_n hx hb dX10_tell_16 rfl (lv_at hl 0 rfl) ?_
    refine gf_X10_378 S hK hP h0 dX10_tell_17 hf (fun x3 hf => ?_)
    refine lv_iload_n hx hb dX10_tell_20 rfl (lv_at hl 1 rfl) ?_
    refine r_iast S hK hG hP hS hx2 dX10_tell_21 hf (fun M H locs hP hS hf => ?_)
    refine lv_aload_n hx hb dX10_tell_22 rfl (lv_at hl 0 rfl) ?_
    refine lv_dup hx hb dX10_tell_23 rfl ?_
    refine gf_X10_378 S hK hP h0 dX10_tell_24 hf (fun x4 hf => ?_)
    refine lv_iconst (v := 1) hx hb dX10_tell_27 (by decide) ?_
    refine lv_iadd hx hb dX10_tell_28 ?_
    refine pf_X10_378 S hK hG hP hS h0 dX10_tell_29 hf (fun M H locs hP hS hf => ?_)
    refine lv_aload_n hx hb dX10_tell_32 rfl (lv_at hl 0 rfl) ?_
    refine gf_X10_378 S hK hP h0 dX10_tell_33 hf (fun x5 hf => ?_)
    exact hret _ _ _ _ _ _ dX10_tell_36 hP hS rfl hf
  · refine lv_ldc (v := (-1000000003)) hx hb hown (ht _ k_1234) dX10_tell_9 ?_
    exact hret _ _ _ _ _ _ dX10_tell_11 hP hS rfl hf
def f_X10_setAside (o : Nat) (p1 : Nat) (p2 : Nat) (M : Mem) : Option (Int32 × Mem) :=
  it1 (fun rc2 (v1 : Int32) M =>
    if v1 < 3510 then
      ld M p1 v1 (gsz G2 p1) fun x3 =>
      st M p2 v1 (gsz G2 p2) x3 fun M =>
      rc2 (v1 + 1) M
    else
      some (0, M)
  ) fuel 0 M
def rm_X10_setAside : Room := { frames := 0, cells := 0, slots := 0, locals := 0 }
set_option maxHeartbeats 4000000 in
set_option maxRecDepth 100000 in
theorem c_X10_setAside {l : Launch} {D : va_G} {K : Ks} {ad : Nat → Nat} {A : Nat → Prop} (hG : Gok G2 ad A) {o : Nat} {p1 : Nat} {p2 : Nat} (h0 : gcl G2 o = 10) (h1 : gcl G2 p1 = 20) (h2 : gcl G2 p2 = 20) {M : Mem} {r : Int32} {M' : Mem} (hf : f_X10_setAside o p1 p2 M = some (r, M')) : Cv l E2 D K G2 ad A yX10_setAside (ws_of yX10_setAside cX10_setAside 4 none) rm_X10_setAside [.ref (ad o), .ref (ad p1), .ref (ad p2)] M M' := by
  have hst : Est A E2 := est2
  refine Cv.ofW (r := r) (by decide) (Nat.le_of_ble_eq_true rfl) ?_
  intro p e s m args below meth c Q H locs ls S hK hE hP hS hl hret
  have hx := S.1
  have hb := S.2.1
  have hown := S.2.2.2.1
  have ht := S.2.2.2.2
  have hl : lv_has ls 4 [(0, .ref (ad o)), (1, .ref (ad p1)), (2, .ref (ad p2))] := hl
  unfold f_X10_setAside at hf
  refine lv_iconst (v := 0) hx hb dX10_setAside_0 (by decide) ?_
  refine lv_istore_n (lv' := [(3, .int 0), (0, .ref (ad o)), (1, .ref (ad p1)), (2, .ref (ad p2))]) hx hb dX10_setAside_1 rfl hl (by decide) rfl (fun ls hl => ?_)
  obtain ⟨F2, hF2, hf⟩ := it1_g hf
  have L2 : ∀ (n : Nat) (v1 : Int32) (M : Mem) (H : Heap) (locs : List Loc) (ls : Array Slot), lv_has ls 4 [(1, .ref (ad p1)), (2, .ref (ad p2)), (3, .int v1)] → va_P D classes (gws K G2 ad M) H → va_S A s.heap H locs → it1 F2 n v1 M = some (r, M') → W p l e rm_X10_setAside s m args below meth c H locs 0 0 Q (F0 m 2 ls []) := by
    intro n
    induction n with
    | zero => intro v1 M H locs ls hl hP hS hf; exact nomatch hf
    | succ n ih2 =>
      intro v1 M H locs ls hl hP hS hf
      obtain ⟨rc2, hrc2, hf⟩ := it1_w hf
      rw [← hrc2] at ih2
      rw [hF2] at hf
      refine lv_iload_n hx hb dX10_setAside_2 rfl (lv_at hl 2 rfl) ?_
      refine lv_sipush (v := 3510) hx hb dX10_setAside_3 (by decide) ?_
      refine r_icmp_ge (tgt := 21) S dX10_setAside_6 (by decide) hf (fun hf => ?_) (fun hf => ?_)
      · exact hret _ _ _ _ _ _ dX10_setAside_21 hP hS hf
      · refine lv_aload_n hx hb dX10_setAside_9 rfl (lv_at hl 1 rfl) ?_
        refine lv_iload_n hx hb dX10_setAside_10 rfl (lv_at hl 2 rfl) ?_
        refine lv_aload_n hx hb dX10_setAside_11 rfl (lv_at hl 0 rfl) ?_
        refine lv_iload_n hx hb dX10_setAside_12 rfl (lv_at hl 2 rfl) ?_
        refine r_iald S hK hP ⟨h1, rfl⟩ dX10_setAside_13 hf (fun x3 hf => ?_)
        refine r_iast S hK hG hP hS ⟨h2, rfl⟩ dX10_setAside_14 hf (fun M H locs hP hS hf => ?_)
        refine lv_iinc (v := (v1 + 1)) (lv' := [(3, .int (v1 + 1)), (1, .ref (ad p1)), (2, .ref (ad p2))]) hx hb dX10_setAside_15 hl (k := 2) rfl rfl (by decide) rfl (fun ls hl => ?_)
        refine lv_goto (tgt := 2) hx hb dX10_setAside_18 (by decide) ?_
        exact ih2 (v1 + 1) M H locs ls (lv_sub hl [1, 2, 0] rfl) hP hS hf
  exact L2 _ 0 M H locs ls (lv_sub hl [2, 3, 0] rfl) hP hS hf
theorem cw_X10_385 {R : Room} {s : State} {args : Array Value} (ht : ∀ w ∈ Tw, w.before args s = true) (hR : rm_X10_setAside.frames + 1 ≤ R.frames ∧ 8 + (4 + 11) + rm_X10_setAside.locals ≤ R.locals) : CallW R s args RX10 RX10 385 yX10_setAside cX10_setAside 4 none (ws_of yX10_setAside cX10_setAside 4 none) rm_X10_setAside 0 0 2 := cw_V 2 ht k_1651 k_1653 k_61 k_73 k_1654 (by decide +kernel) rfl rfl hR
section
variable {p : Program} {l : Launch} {e : Env} {R : Room} {s : State} {m : MethodId} {args : Array Value} {below : List Frame} {meth : Method} {c : Code} {H : Heap} {locs : List Loc} {cells slots : Nat} {Q : State → Prop} {cc : ByteArray} {pc : Nat} {ls : Array Slot} {rest : List Value} {nL : Nat} {D : va_G} {K : Ks} {ad : Nat → Nat} {A : Nat → Prop} {M : Mem} {β : Type} {z : β}
theorem gf_X10_13 (S : CallFix p m c cc nL s args Tw RX10) (hK : va_K D classes (gty K) s) (hP : va_P D classes (gws K G2 ad M) H) {a : Nat} {kk : Nat → Option β} (ha : gcl G2 a = 10) (hdg : decode cc pc = .ok (.getfield 13, 3)) (hf : vv (grf G2 a 1) kk = some z) (w : ∀ b, gcl G2 b = 20 ∧ gsz G2 b = 3510 → kk b = some z → W p l e R s m args below meth c H locs cells slots Q (F0 m (pc + 3) ls (.ref (ad b) :: rest))) : W p l e R s m args below meth c H locs cells slots Q (F0 m pc ls (.ref (ad a) :: rest)) := r_getr S hK hP (T := TX10) inX10 rfl (by decide) (by decide) ha (sf_X10_1 ha).1 k_1107 hdg hf (fun b e => w b (by rw [e]; exact (sf_X10_1 ha).2))
end
section
variable {p : Program} {l : Launch} {e : Env} {R : Room} {s : State} {m : MethodId} {args : Array Value} {below : List Frame} {meth : Method} {c : Code} {H : Heap} {locs : List Loc} {cells slots : Nat} {Q : State → Prop} {cc : ByteArray} {pc : Nat} {ls : Array Slot} {rest : List Value} {nL : Nat} {D : va_G} {K : Ks} {ad : Nat → Nat} {A : Nat → Prop} {M : Mem} {β : Type} {z : β}
theorem gf_X10_16 (S : CallFix p m c cc nL s args Tw RX10) (hK : va_K D classes (gty K) s) (hP : va_P D classes (gws K G2 ad M) H) {a : Nat} {kk : Nat → Option β} (ha : gcl G2 a = 10) (hdg : decode cc pc = .ok (.getfield 16, 3)) (hf : vv (grf G2 a 2) kk = some z) (w : ∀ b, gcl G2 b = 20 ∧ gsz G2 b = 3510 → kk b = some z → W p l e R s m args below meth c H locs cells slots Q (F0 m (pc + 3) ls (.ref (ad b) :: rest))) : W p l e R s m args below meth c H locs cells slots Q (F0 m pc ls (.ref (ad a) :: rest)) := r_getr S hK hP (T := TX10) inX10 rfl (by decide) (by decide) ha (sf_X10_2 ha).1 k_1108 hdg hf (fun b e => w b (by rw [e]; exact (sf_X10_2 ha).2))
end
section
variable {p : Program} {l : Launch} {e : Env} {R : Room} {s : State} {m : MethodId} {args : Array Value} {below : List Frame} {meth : Method} {c : Code} {H : Heap} {locs : List Loc} {cells slots : Nat} {Q : State → Prop} {cc : ByteArray} {pc : Nat} {ls : Array Slot} {rest : List Value} {nL : Nat} {D : va_G} {K : Ks} {ad : Nat → Nat} {A : Nat → Prop} {M : Mem} {β : Type} {z : β}
theorem gf_X10_381 (S : CallFix p m c cc nL s args Tw RX10) (hK : va_K D classes (gty K) s) (hP : va_P D classes (gws K G2 ad M) H) {a : Nat} {kk : Int32 → Option β} (ha : gcl G2 a = 10) (hdg : decode cc pc = .ok (.getfield 381, 3)) (hf : vv (M a 3) kk = some z) (w : ∀ x, kk x = some z → W p l e R s m args below meth c H locs cells slots Q (F0 m (pc + 3) ls (.int x :: rest))) : W p l e R s m args below meth c H locs cells slots Q (F0 m pc ls (.ref (ad a) :: rest)) := r_geti S hK hP (T := TX10) inX10 rfl (by decide) (by decide) ha (sf_X10_3 ha) k_1109 hdg hf w
end
section
variable {p : Program} {l : Launch} {e : Env} {R : Room} {s : State} {m : MethodId} {args : Array Value} {below : List Frame} {meth : Method} {c : Code} {H : Heap} {locs : List Loc} {cells slots : Nat} {Q : State → Prop} {cc : ByteArray} {pc : Nat} {ls : Array Slot} {rest : List Value} {nL : Nat} {D : va_G} {K : Ks} {ad : Nat → Nat} {A : Nat → Prop} {M : Mem} {β : Type} {z : β}
theorem gf_X10_70 (S : CallFix p m c cc nL s args Tw RX10) (hK : va_K D classes (gty K) s) (hP : va_P D classes (gws K G2 ad M) H) {a : Nat} {kk : Nat → Option β} (ha : gcl G2 a = 10) (hdg : decode cc pc = .ok (.getfield 70, 3)) (hf : vv (grf G2 a 38) kk = some z) (w : ∀ b, gcl G2 b = 20 ∧ gsz G2 b = 12 → kk b = some z → W p l e R s m args below meth c H locs cells slots Q (F0 m (pc + 3) ls (.ref (ad b) :: rest))) : W p l e R s m args below meth c H locs cells slots Q (F0 m pc ls (.ref (ad a) :: rest)) := r_getr S hK hP (T := TX10) inX10 rfl (by decide) (by decide) ha (sf_X10_38 ha).1 k_1144 hdg hf (fun b e => w b (by rw [e]; exact (sf_X10_38 ha).2))
end
def f_X10_check (o : Nat) (p1 : Int32) (p2 : Int32) (M : Mem) : Option (Int32 × Mem) :=
  vv (M o 37) fun x1 =>
  mm (up M o 37 0) fun M =>
  bd (f_X10_isIn (Int32.toInt64 p1) 2 12 M) fun x2 M =>
  if x2 = 0 then
    some ((-1000000001), M)
  else
    bd (f_X10_isPairs p2 M) fun x3 M =>
    if x3 = 0 then
      some ((-1000000001), M)
    else
      vv (M o 3) fun x4 =>
      if x4 = 0 then
        some ((-1000000002), M)
      else
        vv (grf G2 o 0) fun x5 =>
        vv (grf G2 o 2) fun x6 =>
        bd (f_X10_setAside o x5 x6 M) fun _ M =>
        vv (grf G2 o 1) fun x8 =>
        vv (grf G2 o 0) fun x9 =>
        bd (f_X10_setAside o x8 x9 M) fun _ M =>
        bd (f_X10_spreadFor o p2 0 M) fun x11 M =>
        it1 (fun rc13 (v12 : Int32) M =>
          if v12 < p1 then
            vv (grf G2 o 38) fun x24 =>
            bd (f_X10_drawn o x11 M) fun x25 M =>
            st M x24 v12 12 x25 fun M =>
            rc13 (v12 + 1) M
          else
            vv (grf G2 o 2) fun x14 =>
            vv (grf G2 o 0) fun x15 =>
            bd (f_X10_setAside o x14 x15 M) fun _ M =>
            it1 (fun rc18 (v17 : Int32) M =>
              jn (fun (M : Mem) =>
                if v17 = x1 then
                  if v17 = p1 then
                    some (0, M)
                  else
                    some ((1 + v17), M)
                else
                  some ((1 + v17), M)
              ) fun k19 =>
              if v17 < x1 then
                if v17 < p1 then
                  vv (grf G2 o 36) fun x20 =>
                  ld M x20 v17 60 fun x21 =>
                  vv (grf G2 o 38) fun x22 =>
                  ld M x22 v17 12 fun x23 =>
                  if x21 = x23 then
                    rc18 (v17 + 1) M
                  else
                    k19 M
                else
                  k19 M
              else
                k19 M
            ) fuel 0 M
        ) fuel 0 M
def rm_X10_check : Room := { frames := 3, cells := 0, slots := 0, locals := 70 }
set_option maxHeartbeats 4000000 in
set_option maxRecDepth 100000 in
theorem c_X10_check {l : Launch} {D : va_G} {K : Ks} {ad : Nat → Nat} {A : Nat → Prop} (hG : Gok G2 ad A) {o : Nat} {p1 : Int32} {p2 : Int32} (h0 : gcl G2 o = 10) {M : Mem} {r : Int32} {M' : Mem} (hf : f_X10_check o p1 p2 M = some (r, M')) : Ct l E2 D K G2 ad A yX10_check (ws_of yX10_check cX10_check 6 (some .int)) rm_X10_check .int [.ref (ad o), .int p1, .int p2] M r M' := by
  have hst : Est A E2 := est2
  refine Ct.ofW (by decide) (Nat.le_of_ble_eq_true rfl) ?_
  intro p e s m args below meth c Q H locs ls S hK hE hP hS hl hret
  have hx := S.1
  have hb := S.2.1
  have hown := S.2.2.2.1
  have ht := S.2.2.2.2
  have hl : lv_has ls 6 [(0, .ref (ad o)), (1, .int p1), (2, .int p2)] := hl
  unfold f_X10_check at hf
  refine lv_aload_n hx hb dX10_check_0 rfl (lv_at hl 0 rfl) ?_
  refine gf_X10_378 S hK hP h0 dX10_check_1 hf (fun x1 hf => ?_)
  refine lv_istore_n (lv' := [(3, .int x1), (0, .ref (ad o)), (1, .int p1), (2, .int p2)]) hx hb dX10_check_4 rfl hl (by decide) rfl (fun ls hl => ?_)
  refine lv_aload_n hx hb dX10_check_5 rfl (lv_at hl 1 rfl) ?_
  refine lv_iconst (v := 0) hx hb dX10_check_6 (by decide) ?_
  refine pf_X10_378 S hK hG hP hS h0 dX10_check_7 hf (fun M H locs hP hS hf => ?_)
  refine lv_iload_n hx hb dX10_check_10 rfl (lv_at hl 2 rfl) ?_
  refine lv_i2l (v := (Int32.toInt64 p1)) hx hb dX10_check_11 rfl ?_
  refine lv_ldc2 (v := 2) hx hb hown (ht _ k_1426) dX10_check_12 ?_
  refine lv_ldc2 (v := 12) hx hb hown (ht _ k_1469) dX10_check_15 ?_
  refine r_callS (As := [.long (Int32.toInt64 p1), .long 2, .long 12]) (rest := []) S hK hE hst hP hS (cw_X10_74 ht ⟨Nat.le_of_ble_eq_true rfl, Nat.le_of_ble_eq_true rfl⟩) rfl hl.1 rfl (Nat.le_of_ble_eq_true rfl) dX10_check_18 z2 (fun _ _ h => c_X10_isIn hG  h) hf (fun x2 M H locs hP hS bx2 hf => ?_)
  refine r_if_eq (tgt := 31) S dX10_check_21 (by decide) hf (fun hf => ?_) (fun hf => ?_)
  · refine lv_ldc (v := (-1000000001)) hx hb hown (ht _ k_1232) dX10_check_31 ?_
    exact hret _ _ _ _ _ _ dX10_check_33 hP hS rfl hf
  · refine lv_iload_n hx hb dX10_check_24 rfl (lv_at hl 3 rfl) ?_
    refine r_callS (As := [.int p2]) (rest := []) S hK hE hst hP hS (cw_X10_99 ht ⟨Nat.le_of_ble_eq_true rfl, Nat.le_of_ble_eq_true rfl⟩) rfl hl.1 rfl (Nat.le_of_ble_eq_true rfl) dX10_check_25 z2 (fun _ _ h => c_X10_isPairs hG  h) hf (fun x3 M H locs hP hS bx3 hf => ?_)
    refine r_if_ne (tgt := 34) S dX10_check_28 (by decide) hf (fun hf => ?_) (fun hf => ?_)
    · refine lv_aload_n hx hb dX10_check_34 rfl (lv_at hl 1 rfl) ?_
      refine gf_X10_381 S hK hP h0 dX10_check_35 hf (fun x4 hf => ?_)
      refine r_if_ne (tgt := 44) S dX10_check_38 (by decide) hf (fun hf => ?_) (fun hf => ?_)
      · refine lv_aload_n hx hb dX10_check_44 rfl (lv_at hl 1 rfl) ?_
        refine lv_aload_n hx hb dX10_check_45 rfl (lv_at hl 1 rfl) ?_
        refine gf_X10_7 S hK hP h0 dX10_check_46 hf (fun x5 hx5 hf => ?_)
        refine lv_aload_n hx hb dX10_check_49 rfl (lv_at hl 1 rfl) ?_
        refine gf_X10_16 S hK hP h0 dX10_check_50 hf (fun x6 hx6 hf => ?_)
        refine r_callVv (As := [.ref (ad x5), .ref (ad x6)]) (rest := []) S hK hE hst hP hS h0 (by decide) rfl (cw_X10_385 ht ⟨Nat.le_of_ble_eq_true rfl, Nat.le_of_ble_eq_true rfl⟩) rfl hl.1 rfl (Nat.le_of_ble_eq_true rfl) dX10_check_53 z2 (fun _ _ h => c_X10_setAside hG  h0 hx5.1 hx6.1 h) hf (fun x7 M H locs hP hS hf => ?_)
        refine lv_aload_n hx hb dX10_check_56 rfl (lv_at hl 1 rfl) ?_
        refine lv_aload_n hx hb dX10_check_57 rfl (lv_at hl 1 rfl) ?_
        refine gf_X10_13 S hK hP h0 dX10_check_58 hf (fun x8 hx8 hf => ?_)
        refine lv_aload_n hx hb dX10_check_61 rfl (lv_at hl 1 rfl) ?_
        refine gf_X10_7 S hK hP h0 dX10_check_62 hf (fun x9 hx9 hf => ?_)
        refine r_callVv (As := [.ref (ad x8), .ref (ad x9)]) (rest := []) S hK hE hst hP hS h0 (by decide) rfl (cw_X10_385 ht ⟨Nat.le_of_ble_eq_true rfl, Nat.le_of_ble_eq_true rfl⟩) rfl hl.1 rfl (Nat.le_of_ble_eq_true rfl) dX10_check_65 z2 (fun _ _ h => c_X10_setAside hG  h0 hx8.1 hx9.1 h) hf (fun x10 M H locs hP hS hf => ?_)
        refine lv_aload_n hx hb dX10_check_68 rfl (lv_at hl 1 rfl) ?_
        refine lv_iload_n hx hb dX10_check_69 rfl (lv_at hl 3 rfl) ?_
        refine lv_iconst (v := 0) hx hb dX10_check_70 (by decide) ?_
        refine r_callV (As := [.int p2, .int 0]) (rest := []) S hK hE hst hP hS h0 (by decide) rfl (cw_X10_125 ht ⟨Nat.le_of_ble_eq_true rfl, Nat.le_of_ble_eq_true rfl⟩) rfl hl.1 rfl (Nat.le_of_ble_eq_true rfl) dX10_check_71 z2 (fun _ _ h => c_X10_spreadFor hG  h0 h) hf (fun x11 M H locs hP hS bx11 hf => ?_)
        refine lv_istore (lv' := [(4, .int x11), (3, .int x1), (0, .ref (ad o)), (1, .int p1), (2, .int p2)]) hx hb dX10_check_74 hl (by decide) rfl (fun ls hl => ?_)
        refine lv_iconst (v := 0) hx hb dX10_check_76 (by decide) ?_
        refine lv_istore (lv' := [(5, .int 0), (4, .int x11), (3, .int x1), (0, .ref (ad o)), (1, .int p1), (2, .int p2)]) hx hb dX10_check_77 hl (by decide) rfl (fun ls hl => ?_)
        obtain ⟨F13, hF13, hf⟩ := it1_g hf
        have L13 : ∀ (n : Nat) (v12 : Int32) (M : Mem) (H : Heap) (locs : List Loc) (ls : Array Slot), lv_has ls 6 [(0, .ref (ad o)), (1, .int p1), (3, .int x1), (4, .int x11), (5, .int v12)] → va_P D classes (gws K G2 ad M) H → va_S A s.heap H locs → it1 F13 n v12 M = some (r, M') → W p l e rm_X10_check s m args below meth c H locs 0 0 Q (F0 m 79 ls []) := by
          intro n
          induction n with
          | zero => intro v12 M H locs ls hl hP hS hf; exact nomatch hf
          | succ n ih13 =>
            intro v12 M H locs ls hl hP hS hf
            obtain ⟨rc13, hrc13, hf⟩ := it1_w hf
            rw [← hrc13] at ih13
            rw [hF13] at hf
            refine lv_iload hx hb dX10_check_79 (lv_at hl 4 rfl) ?_
            refine lv_iload_n hx hb dX10_check_81 rfl (lv_at hl 1 rfl) ?_
            refine r_icmp_ge (tgt := 104) S dX10_check_82 (by decide) hf (fun hf => ?_) (fun hf => ?_)
            · refine lv_aload_n hx hb dX10_check_104 rfl (lv_at hl 0 rfl) ?_
              refine lv_aload_n hx hb dX10_check_105 rfl (lv_at hl 0 rfl) ?_
              refine gf_X10_16 S hK hP h0 dX10_check_106 hf (fun x14 hx14 hf => ?_)
              refine lv_aload_n hx hb dX10_check_109 rfl (lv_at hl 0 rfl) ?_
              refine gf_X10_7 S hK hP h0 dX10_check_110 hf (fun x15 hx15 hf => ?_)
              refine r_callVv (As := [.ref (ad x14), .ref (ad x15)]) (rest := []) S hK hE hst hP hS h0 (by decide) rfl (cw_X10_385 ht ⟨Nat.le_of_ble_eq_true rfl, Nat.le_of_ble_eq_true rfl⟩) rfl hl.1 rfl (Nat.le_of_ble_eq_true rfl) dX10_check_113 z2 (fun _ _ h => c_X10_setAside hG  h0 hx14.1 hx15.1 h) hf (fun x16 M H locs hP hS hf => ?_)
              refine lv_iconst (v := 0) hx hb dX10_check_116 (by decide) ?_
              refine lv_istore (lv' := [(5, .int 0), (0, .ref (ad o)), (1, .int p1), (3, .int x1), (4, .int x11)]) hx hb dX10_check_117 hl (by decide) rfl (fun ls hl => ?_)
              obtain ⟨F18, hF18, hf⟩ := it1_g hf
              have L18 : ∀ (n : Nat) (v17 : Int32) (M : Mem) (H : Heap) (locs : List Loc) (ls : Array Slot), lv_has ls 6 [(0, .ref (ad o)), (1, .int p1), (3, .int x1), (5, .int v17)] → va_P D classes (gws K G2 ad M) H → va_S A s.heap H locs → it1 F18 n v17 M = some (r, M') → W p l e rm_X10_check s m args below meth c H locs 0 0 Q (F0 m 119 ls []) := by
                intro n
                induction n with
                | zero => intro v17 M H locs ls hl hP hS hf; exact nomatch hf
                | succ n ih18 =>
                  intro v17 M H locs ls hl hP hS hf
                  obtain ⟨rc18, hrc18, hf⟩ := it1_w hf
                  rw [← hrc18] at ih18
                  rw [hF18] at hf
                  refine lv_iload hx hb dX10_check_119 (lv_at hl 3 rfl) ?_
                  refine lv_iload_n hx hb dX10_check_121 rfl (lv_at hl 2 rfl) ?_
                  obtain ⟨k19, hk19, hf⟩ := jn_w hf
                  have J19 : ∀ (M : Mem) (H : Heap) (locs : List Loc) (ls : Array Slot), lv_has ls 6 [(1, .int p1), (3, .int x1), (5, .int v17)] → va_P D classes (gws K G2 ad M) H → va_S A s.heap H locs → k19 M = some (r, M') → W p l e rm_X10_check s m args below meth c H locs 0 0 Q (F0 m 154 ls []) := by
                    intro M H locs ls hl hP hS hf
                    rw [hk19] at hf
                    refine lv_iload hx hb dX10_check_154 (lv_at hl 2 rfl) ?_
                    refine lv_iload_n hx hb dX10_check_156 rfl (lv_at hl 1 rfl) ?_
                    refine r_icmp_ne (tgt := 170) S dX10_check_157 (by decide) hf (fun hf => ?_) (fun hf => ?_)
                    · refine lv_iconst (v := 1) hx hb dX10_check_170 (by decide) ?_
                      refine lv_iload hx hb dX10_check_171 (lv_at hl 2 rfl) ?_
                      refine lv_iadd hx hb dX10_check_173 ?_
                      exact hret _ _ _ _ _ _ dX10_check_174 hP hS rfl hf
                    · refine lv_iload hx hb dX10_check_160 (lv_at hl 2 rfl) ?_
                      refine lv_iload_n hx hb dX10_check_162 rfl (lv_at hl 0 rfl) ?_
                      refine r_icmp_ne (tgt := 170) S dX10_check_163 (by decide) hf (fun hf => ?_) (fun hf => ?_)
                      · refine lv_iconst (v := 1) hx hb dX10_check_170 (by decide) ?_
                        refine lv_iload hx hb dX10_check_171 (lv_at hl 2 rfl) ?_
                        refine lv_iadd hx hb dX10_check_173 ?_
                        exact hret _ _ _ _ _ _ dX10_check_174 hP hS rfl hf
                      · refine lv_iconst (v := 0) hx hb dX10_check_166 (by decide) ?_
                        refine lv_goto (tgt := 174) hx hb dX10_check_167 (by decide) ?_
                        exact hret _ _ _ _ _ _ dX10_check_174 hP hS rfl hf
                  refine r_icmp_ge (tgt := 154) S dX10_check_122 (by decide) hf (fun hf => ?_) (fun hf => ?_)
                  · exact J19 M H locs ls (lv_sub hl [1, 2, 3] rfl) hP hS hf
                  · refine lv_iload hx hb dX10_check_125 (lv_at hl 3 rfl) ?_
                    refine lv_iload_n hx hb dX10_check_127 rfl (lv_at hl 1 rfl) ?_
                    refine r_icmp_ge (tgt := 154) S dX10_check_128 (by decide) hf (fun hf => ?_) (fun hf => ?_)
                    · exact J19 M H locs ls (lv_sub hl [1, 2, 3] rfl) hP hS hf
                    · refine lv_aload_n hx hb dX10_check_131 rfl (lv_at hl 0 rfl) ?_
                      refine gf_X10_67 S hK hP h0 dX10_check_132 hf (fun x20 hx20 hf => ?_)
                      refine lv_iload hx hb dX10_check_135 (lv_at hl 3 rfl) ?_
                      refine r_iald S hK hP hx20 dX10_check_137 hf (fun x21 hf => ?_)
                      refine lv_aload_n hx hb dX10_check_138 rfl (lv_at hl 0 rfl) ?_
                      refine gf_X10_70 S hK hP h0 dX10_check_139 hf (fun x22 hx22 hf => ?_)
                      refine lv_iload hx hb dX10_check_142 (lv_at hl 3 rfl) ?_
                      refine r_iald S hK hP hx22 dX10_check_144 hf (fun x23 hf => ?_)
                      refine r_icmp_ne (tgt := 154) S dX10_check_145 (by decide) hf (fun hf => ?_) (fun hf => ?_)
                      · exact J19 M H locs ls (lv_sub hl [1, 2, 3] rfl) hP hS hf
                      · refine lv_iinc (v := (v17 + 1)) (lv' := [(5, .int (v17 + 1)), (0, .ref (ad o)), (1, .int p1), (3, .int x1)]) hx hb dX10_check_148 hl (k := 3) rfl rfl (by decide) rfl (fun ls hl => ?_)
                        refine lv_goto (tgt := 119) hx hb dX10_check_151 (by decide) ?_
                        exact ih18 (v17 + 1) M H locs ls (lv_sub hl [1, 2, 3, 0] rfl) hP hS hf
              exact L18 _ 0 M H locs ls (lv_sub hl [1, 2, 3, 0] rfl) hP hS hf
            · refine lv_aload_n hx hb dX10_check_85 rfl (lv_at hl 0 rfl) ?_
              refine gf_X10_70 S hK hP h0 dX10_check_86 hf (fun x24 hx24 hf => ?_)
              refine lv_iload hx hb dX10_check_89 (lv_at hl 4 rfl) ?_
              refine lv_aload_n hx hb dX10_check_91 rfl (lv_at hl 0 rfl) ?_
              refine lv_iload hx hb dX10_check_92 (lv_at hl 3 rfl) ?_
              refine r_callV (As := [.int x11]) (rest := [.int v12, .ref (ad x24)]) S hK hE hst hP hS h0 (by decide) rfl (cw_X10_360 ht ⟨Nat.le_of_ble_eq_true rfl, Nat.le_of_ble_eq_true rfl⟩) rfl hl.1 rfl (Nat.le_of_ble_eq_true rfl) dX10_check_94 z2 (fun _ _ h => c_X10_drawn hG  h0 h) hf (fun x25 M H locs hP hS bx25 hf => ?_)
              refine r_iast S hK hG hP hS hx24 dX10_check_97 hf (fun M H locs hP hS hf => ?_)
              refine lv_iinc (v := (v12 + 1)) (lv' := [(5, .int (v12 + 1)), (0, .ref (ad o)), (1, .int p1), (3, .int x1), (4, .int x11)]) hx hb dX10_check_98 hl (k := 4) rfl rfl (by decide) rfl (fun ls hl => ?_)
              refine lv_goto (tgt := 79) hx hb dX10_check_101 (by decide) ?_
              exact ih13 (v12 + 1) M H locs ls (lv_sub hl [1, 2, 3, 4, 0] rfl) hP hS hf
        exact L13 _ 0 M H locs ls (lv_sub hl [3, 4, 2, 1, 0] rfl) hP hS hf
      · refine lv_ldc (v := (-1000000002)) hx hb hown (ht _ k_1233) dX10_check_41 ?_
        exact hret _ _ _ _ _ _ dX10_check_43 hP hS rfl hf
    · refine lv_ldc (v := (-1000000001)) hx hb hown (ht _ k_1232) dX10_check_31 ?_
      exact hret _ _ _ _ _ _ dX10_check_33 hP hS rfl hf
section
variable {p : Program} {l : Launch} {e : Env} {R : Room} {s : State} {m : MethodId} {args : Array Value} {below : List Frame} {meth : Method} {c : Code} {H : Heap} {locs : List Loc} {cells slots : Nat} {Q : State → Prop} {cc : ByteArray} {pc : Nat} {ls : Array Slot} {rest : List Value} {nL : Nat} {D : va_G} {K : Ks} {ad : Nat → Nat} {A : Nat → Prop} {M : Mem} {β : Type} {z : β}
theorem pf_X10_381 (S : CallFix p m c cc nL s args Tw RX10) (hK : va_K D classes (gty K) s) (hG : Gok G2 ad A) (hP : va_P D classes (gws K G2 ad M) H) (hS : va_S A s.heap H locs) {a : Nat} {v : Int32} {kk : Mem → Option β} (hn : narrow .boolean (.int v) = .int v) (hft : fits .boolean (.int v) = true) (ha : gcl G2 a = 10) (hdg : decode cc pc = .ok (.putfield 381, 3)) (hf : mm (up M a 3 v) kk = some z) (w : ∀ M H locs, va_P D classes (gws K G2 ad M) H → va_S A s.heap H locs → kk M = some z → W p l e R s m args below meth c H locs cells slots Q (F0 m (pc + 3) ls rest)) : W p l e R s m args below meth c H locs cells slots Q (F0 m pc ls (.int v :: .ref (ad a) :: rest)) := r_putt S hK hG hP hS (k := 3) (T := TX10) inX10 rfl (by decide) tyX10 tyX10_ok nmX10 (by decide) rfl hn hft ha (sf_X10_3 ha) k_1109 hdg hf w
end
def f_X10_keep (o : Nat) (M : Mem) : Option (Int32 × Mem) :=
  mm (up M o 3 1) fun M =>
  vv (grf G2 o 0) fun x1 =>
  vv (grf G2 o 1) fun x2 =>
  bd (f_X10_setAside o x1 x2 M) fun _ M =>
  vv (grf G2 o 0) fun x4 =>
  ld M x4 1 3510 fun x5 =>
  some (x5, M)
def rm_X10_keep : Room := { frames := 1, cells := 0, slots := 0, locals := 23 }
set_option maxHeartbeats 4000000 in
set_option maxRecDepth 100000 in
theorem c_X10_keep {l : Launch} {D : va_G} {K : Ks} {ad : Nat → Nat} {A : Nat → Prop} (hG : Gok G2 ad A) {o : Nat} (h0 : gcl G2 o = 10) {M : Mem} {r : Int32} {M' : Mem} (hf : f_X10_keep o M = some (r, M')) : Ct l E2 D K G2 ad A yX10_keep (ws_of yX10_keep cX10_keep 1 (some .int)) rm_X10_keep .int [.ref (ad o)] M r M' := by
  have hst : Est A E2 := est2
  refine Ct.ofW (by decide) (Nat.le_of_ble_eq_true rfl) ?_
  intro p e s m args below meth c Q H locs ls S hK hE hP hS hl hret
  have hx := S.1
  have hb := S.2.1
  have hown := S.2.2.2.1
  have ht := S.2.2.2.2
  have hl : lv_has ls 1 [(0, .ref (ad o))] := hl
  unfold f_X10_keep at hf
  refine lv_aload_n hx hb dX10_keep_0 rfl (lv_at hl 0 rfl) ?_
  refine lv_iconst (v := 1) hx hb dX10_keep_1 (by decide) ?_
  refine pf_X10_381 S hK hG hP hS rfl rfl h0 dX10_keep_2 hf (fun M H locs hP hS hf => ?_)
  refine lv_aload_n hx hb dX10_keep_5 rfl (lv_at hl 0 rfl) ?_
  refine lv_aload_n hx hb dX10_keep_6 rfl (lv_at hl 0 rfl) ?_
  refine gf_X10_7 S hK hP h0 dX10_keep_7 hf (fun x1 hx1 hf => ?_)
  refine lv_aload_n hx hb dX10_keep_10 rfl (lv_at hl 0 rfl) ?_
  refine gf_X10_13 S hK hP h0 dX10_keep_11 hf (fun x2 hx2 hf => ?_)
  refine r_callVv (As := [.ref (ad x1), .ref (ad x2)]) (rest := []) S hK hE hst hP hS h0 (by decide) rfl (cw_X10_385 ht ⟨Nat.le_of_ble_eq_true rfl, Nat.le_of_ble_eq_true rfl⟩) rfl hl.1 rfl (Nat.le_of_ble_eq_true rfl) dX10_keep_14 z2 (fun _ _ h => c_X10_setAside hG  h0 hx1.1 hx2.1 h) hf (fun x3 M H locs hP hS hf => ?_)
  refine lv_aload_n hx hb dX10_keep_17 rfl (lv_at hl 0 rfl) ?_
  refine gf_X10_7 S hK hP h0 dX10_keep_18 hf (fun x4 hx4 hf => ?_)
  refine lv_iconst (v := 1) hx hb dX10_keep_21 (by decide) ?_
  refine r_iald S hK hP hx4 dX10_keep_22 hf (fun x5 hf => ?_)
  exact hret _ _ _ _ _ _ dX10_keep_23 hP hS rfl hf
def f_X10_back (o : Nat) (M : Mem) : Option (Int32 × Mem) :=
  vv (M o 3) fun x1 =>
  if x1 = 0 then
    some ((-1000000002), M)
  else
    vv (grf G2 o 1) fun x2 =>
    vv (grf G2 o 0) fun x3 =>
    bd (f_X10_setAside o x2 x3 M) fun _ M =>
    vv (grf G2 o 0) fun x5 =>
    ld M x5 1 3510 fun x6 =>
    some (x6, M)
def rm_X10_back : Room := { frames := 1, cells := 0, slots := 0, locals := 23 }
set_option maxHeartbeats 4000000 in
set_option maxRecDepth 100000 in
theorem c_X10_back {l : Launch} {D : va_G} {K : Ks} {ad : Nat → Nat} {A : Nat → Prop} (hG : Gok G2 ad A) {o : Nat} (h0 : gcl G2 o = 10) {M : Mem} {r : Int32} {M' : Mem} (hf : f_X10_back o M = some (r, M')) : Ct l E2 D K G2 ad A yX10_back (ws_of yX10_back cX10_back 1 (some .int)) rm_X10_back .int [.ref (ad o)] M r M' := by
  have hst : Est A E2 := est2
  refine Ct.ofW (by decide) (Nat.le_of_ble_eq_true rfl) ?_
  intro p e s m args below meth c Q H locs ls S hK hE hP hS hl hret
  have hx := S.1
  have hb := S.2.1
  have hown := S.2.2.2.1
  have ht := S.2.2.2.2
  have hl : lv_has ls 1 [(0, .ref (ad o))] := hl
  unfold f_X10_back at hf
  refine lv_aload_n hx hb dX10_back_0 rfl (lv_at hl 0 rfl) ?_
  refine gf_X10_381 S hK hP h0 dX10_back_1 hf (fun x1 hf => ?_)
  refine r_if_ne (tgt := 10) S dX10_back_4 (by decide) hf (fun hf => ?_) (fun hf => ?_)
  · refine lv_aload_n hx hb dX10_back_10 rfl (lv_at hl 0 rfl) ?_
    refine lv_aload_n hx hb dX10_back_11 rfl (lv_at hl 0 rfl) ?_
    refine gf_X10_13 S hK hP h0 dX10_back_12 hf (fun x2 hx2 hf => ?_)
    refine lv_aload_n hx hb dX10_back_15 rfl (lv_at hl 0 rfl) ?_
    refine gf_X10_7 S hK hP h0 dX10_back_16 hf (fun x3 hx3 hf => ?_)
    refine r_callVv (As := [.ref (ad x2), .ref (ad x3)]) (rest := []) S hK hE hst hP hS h0 (by decide) rfl (cw_X10_385 ht ⟨Nat.le_of_ble_eq_true rfl, Nat.le_of_ble_eq_true rfl⟩) rfl hl.1 rfl (Nat.le_of_ble_eq_true rfl) dX10_back_19 z2 (fun _ _ h => c_X10_setAside hG  h0 hx2.1 hx3.1 h) hf (fun x4 M H locs hP hS hf => ?_)
    refine lv_aload_n hx hb dX10_back_22 rfl (lv_at hl 0 rfl) ?_
    refine gf_X10_7 S hK hP h0 dX10_back_23 hf (fun x5 hx5 hf => ?_)
    refine lv_iconst (v := 1) hx hb dX10_back_26 (by decide) ?_
    refine r_iald S hK hP hx5 dX10_back_27 hf (fun x6 hf => ?_)
    exact hret _ _ _ _ _ _ dX10_back_28 hP hS rfl hf
  · refine lv_ldc (v := (-1000000002)) hx hb hown (ht _ k_1233) dX10_back_7 ?_
    exact hret _ _ _ _ _ _ dX10_back_9 hP hS rfl hf
def f_X10_count (o : Nat) (p1 : Int32) (M : Mem) : Option (Int32 × Mem) :=
  if p1 = 0 then
    vv (grf G2 o 0) fun x1 =>
    ld M x1 0 3510 fun x2 =>
    some (x2, M)
  else
  if p1 = 1 then
    vv (grf G2 o 0) fun x5 =>
    ld M x5 1 3510 fun x6 =>
    some (x6, M)
  else
  if p1 = 2 then
    it2 (fun rc11 (v9 : Int32) (v10 : Int32) M =>
      vv (grf G2 o 0) fun x12 =>
      ld M x12 1 3510 fun x13 =>
      if v10 < x13 then
        vv (grf G2 o 0) fun x14 =>
        bd (f_X10_figureAt o v10 M) fun x15 M =>
        ld M x14 (x15 + 1) 3510 fun x16 =>
        if p1 = 2 then
          bd (f_X10_fits o v10 x16 M) fun x19 M =>
          if x19 = 0 then
            vv (v9 + 0) fun x20 =>
            rc11 x20 (v10 + 1) M
          else
            vv (v9 + 1) fun x21 =>
            rc11 x21 (v10 + 1) M
        else
          if x16 < 6 then
            vv (v9 + 0) fun x17 =>
            rc11 x17 (v10 + 1) M
          else
            vv (v9 + 1) fun x18 =>
            rc11 x18 (v10 + 1) M
      else
        some (v9, M)
    ) fuel 0 0 M
  else
  if p1 = 3 then
    it2 (fun rc26 (v24 : Int32) (v25 : Int32) M =>
      vv (grf G2 o 0) fun x27 =>
      ld M x27 1 3510 fun x28 =>
      if v25 < x28 then
        vv (grf G2 o 0) fun x29 =>
        bd (f_X10_figureAt o v25 M) fun x30 M =>
        ld M x29 (x30 + 1) 3510 fun x31 =>
        if p1 = 2 then
          bd (f_X10_fits o v25 x31 M) fun x34 M =>
          if x34 = 0 then
            vv (v24 + 0) fun x35 =>
            rc26 x35 (v25 + 1) M
          else
            vv (v24 + 1) fun x36 =>
            rc26 x36 (v25 + 1) M
        else
          if x31 < 6 then
            vv (v24 + 0) fun x32 =>
            rc26 x32 (v25 + 1) M
          else
            vv (v24 + 1) fun x33 =>
            rc26 x33 (v25 + 1) M
      else
        some (v24, M)
    ) fuel 0 0 M
  else
  if p1 = 4 then
    vv (grf G2 o 0) fun x39 =>
    ld M x39 2 3510 fun x40 =>
    some (x40, M)
  else
  if p1 = 5 then
    vv (grf G2 o 0) fun x43 =>
    ld M x43 3 3510 fun x44 =>
    some (x44, M)
  else
  if p1 = 6 then
    vv (grf G2 o 0) fun x47 =>
    ld M x47 4 3510 fun x48 =>
    some (x48, M)
  else
  if p1 = 7 then
    vv (grf G2 o 0) fun x51 =>
    ld M x51 5 3510 fun x52 =>
    some (x52, M)
  else
  if p1 = 8 then
    vv (grf G2 o 0) fun x55 =>
    ld M x55 6 3510 fun x56 =>
    some (x56, M)
  else
  if p1 = 9 then
    vv (M o 37) fun x59 =>
    some (x59, M)
  else
  if p1 = 10 then
    vv (M o 13) fun x62 =>
    some (x62, M)
  else
  if p1 = 11 then
    vv (grf G2 o 0) fun x65 =>
    ld M x65 7 3510 fun x66 =>
    some (x66, M)
  else
  some ((-1000000001), M)
def rm_X10_count : Room := { frames := 5, cells := 0, slots := 0, locals := 117 }
set_option maxHeartbeats 4000000 in
set_option maxRecDepth 100000 in
theorem c_X10_count {l : Launch} {D : va_G} {K : Ks} {ad : Nat → Nat} {A : Nat → Prop} (hG : Gok G2 ad A) {o : Nat} {p1 : Int32} (h0 : gcl G2 o = 10) {M : Mem} {r : Int32} {M' : Mem} (hf : f_X10_count o p1 M = some (r, M')) : Ct l E2 D K G2 ad A yX10_count (ws_of yX10_count cX10_count 5 (some .int)) rm_X10_count .int [.ref (ad o), .int p1] M r M' := by
  have hst : Est A E2 := est2
  refine Ct.ofW (by decide) (Nat.le_of_ble_eq_true rfl) ?_
  intro p e s m args below meth c Q H locs ls S hK hE hP hS hl hret
  have hx := S.1
  have hb := S.2.1
  have hown := S.2.2.2.1
  have ht := S.2.2.2.2
  have hl : lv_has ls 5 [(0, .ref (ad o)), (1, .int p1)] := hl
  unfold f_X10_count at hf
  refine lv_iconst (v := 0) hx hb dX10_count_0 (by decide) ?_
  refine lv_istore_n (lv' := [(2, .int 0), (0, .ref (ad o)), (1, .int p1)]) hx hb dX10_count_1 rfl hl (by decide) rfl (fun ls hl => ?_)
  refine lv_iload_n hx hb dX10_count_2 rfl (lv_at hl 2 rfl) ?_
  refine r_case hf (fun e3 hf => ?_) (fun n4 hf => ?_)
  · refine lv_tableIn (x := p1) (tgt := 64) hx hb dX10_count_3 (by rw [e3]; decide) (by rw [e3]; decide) (by rw [e3]; rfl) (by decide) ?_
    refine lv_aload_n hx hb dX10_count_64 rfl (lv_at hl 1 rfl) ?_
    refine gf_X10_7 S hK hP h0 dX10_count_65 hf (fun x1 hx1 hf => ?_)
    refine lv_iconst (v := 0) hx hb dX10_count_68 (by decide) ?_
    refine r_iald S hK hP hx1 dX10_count_69 hf (fun x2 hf => ?_)
    exact hret _ _ _ _ _ _ dX10_count_70 hP hS rfl hf
  refine r_case hf (fun e7 hf => ?_) (fun n8 hf => ?_)
  · refine lv_tableIn (x := p1) (tgt := 71) hx hb dX10_count_3 (by rw [e7]; decide) (by rw [e7]; decide) (by rw [e7]; rfl) (by decide) ?_
    refine lv_aload_n hx hb dX10_count_71 rfl (lv_at hl 1 rfl) ?_
    refine gf_X10_7 S hK hP h0 dX10_count_72 hf (fun x5 hx5 hf => ?_)
    refine lv_iconst (v := 1) hx hb dX10_count_75 (by decide) ?_
    refine r_iald S hK hP hx5 dX10_count_76 hf (fun x6 hf => ?_)
    exact hret _ _ _ _ _ _ dX10_count_77 hP hS rfl hf
  refine r_case hf (fun e22 hf => ?_) (fun n23 hf => ?_)
  · refine lv_tableIn (x := p1) (tgt := 78) hx hb dX10_count_3 (by rw [e22]; decide) (by rw [e22]; decide) (by rw [e22]; rfl) (by decide) ?_
    refine lv_iconst (v := 0) hx hb dX10_count_78 (by decide) ?_
    refine lv_istore_n (lv' := [(3, .int 0), (2, .int 0), (0, .ref (ad o)), (1, .int p1)]) hx hb dX10_count_79 rfl hl (by decide) rfl (fun ls hl => ?_)
    obtain ⟨F11, hF11, hf⟩ := it2_g hf
    have L11 : ∀ (n : Nat) (v9 : Int32) (v10 : Int32) (M : Mem) (H : Heap) (locs : List Loc) (ls : Array Slot), lv_has ls 5 [(0, .ref (ad o)), (1, .int p1), (2, .int v9), (3, .int v10)] → va_P D classes (gws K G2 ad M) H → va_S A s.heap H locs → it2 F11 n v9 v10 M = some (r, M') → W p l e rm_X10_count s m args below meth c H locs 0 0 Q (F0 m 80 ls []) := by
      intro n
      induction n with
      | zero => intro v9 v10 M H locs ls hl hP hS hf; exact nomatch hf
      | succ n ih11 =>
        intro v9 v10 M H locs ls hl hP hS hf
        obtain ⟨rc11, hrc11, hf⟩ := it2_w hf
        rw [← hrc11] at ih11
        rw [hF11] at hf
        refine lv_iload_n hx hb dX10_count_80 rfl (lv_at hl 3 rfl) ?_
        refine lv_aload_n hx hb dX10_count_81 rfl (lv_at hl 0 rfl) ?_
        refine gf_X10_7 S hK hP h0 dX10_count_82 hf (fun x12 hx12 hf => ?_)
        refine lv_iconst (v := 1) hx hb dX10_count_85 (by decide) ?_
        refine r_iald S hK hP hx12 dX10_count_86 hf (fun x13 hf => ?_)
        refine r_icmp_ge (tgt := 143) S dX10_count_87 (by decide) hf (fun hf => ?_) (fun hf => ?_)
        · refine lv_iload_n hx hb dX10_count_143 rfl (lv_at hl 2 rfl) ?_
          exact hret _ _ _ _ _ _ dX10_count_144 hP hS rfl hf
        · refine lv_aload_n hx hb dX10_count_90 rfl (lv_at hl 0 rfl) ?_
          refine gf_X10_7 S hK hP h0 dX10_count_91 hf (fun x14 hx14 hf => ?_)
          refine lv_aload_n hx hb dX10_count_94 rfl (lv_at hl 0 rfl) ?_
          refine lv_iload_n hx hb dX10_count_95 rfl (lv_at hl 3 rfl) ?_
          refine r_callV (As := [.int v10]) (rest := [.ref (ad x14)]) S hK hE hst hP hS h0 (by decide) rfl (cw_X10_87 ht ⟨Nat.le_of_ble_eq_true rfl, Nat.le_of_ble_eq_true rfl⟩) rfl hl.1 rfl (Nat.le_of_ble_eq_true rfl) dX10_count_96 z2 (fun _ _ h => c_X10_figureAt hG  h0 h) hf (fun x15 M H locs hP hS bx15 hf => ?_)
          refine lv_iconst (v := 1) hx hb dX10_count_99 (by decide) ?_
          refine lv_iadd hx hb dX10_count_100 ?_
          refine r_iald S hK hP hx14 dX10_count_101 hf (fun x16 hf => ?_)
          refine lv_istore (lv' := [(4, .int x16), (0, .ref (ad o)), (1, .int p1), (2, .int v9), (3, .int v10)]) hx hb dX10_count_102 hl (by decide) rfl (fun ls hl => ?_)
          refine lv_iload_n hx hb dX10_count_104 rfl (lv_at hl 3 rfl) ?_
          refine lv_iload_n hx hb dX10_count_105 rfl (lv_at hl 2 rfl) ?_
          refine lv_iconst (v := 2) hx hb dX10_count_106 (by decide) ?_
          refine r_icmp_ne (tgt := 123) S dX10_count_107 (by decide) hf (fun hf => ?_) (fun hf => ?_)
          · refine lv_iload hx hb dX10_count_123 (lv_at hl 0 rfl) ?_
            refine lv_bipush (v := 6) hx hb dX10_count_125 (by decide) ?_
            refine r_icmp_lt (tgt := 134) S dX10_count_127 (by decide) hf (fun hf => ?_) (fun hf => ?_)
            · refine lv_iconst (v := 0) hx hb dX10_count_134 (by decide) ?_
              refine lv_iadd hx hb dX10_count_135 ?_
              refine r_vi hf (fun x17 hf => ?_)
              refine lv_istore_n (lv' := [(2, .int x17), (4, .int x16), (0, .ref (ad o)), (1, .int p1), (3, .int v10)]) hx hb dX10_count_136 rfl hl (by decide) rfl (fun ls hl => ?_)
              refine lv_iinc (v := (v10 + 1)) (lv' := [(3, .int (v10 + 1)), (2, .int x17), (4, .int x16), (0, .ref (ad o)), (1, .int p1)]) hx hb dX10_count_137 hl (k := 4) rfl rfl (by decide) rfl (fun ls hl => ?_)
              refine lv_goto (tgt := 80) hx hb dX10_count_140 (by decide) ?_
              exact ih11 x17 (v10 + 1) M H locs ls (lv_sub hl [3, 4, 1, 0] rfl) hP hS hf
            · refine lv_iconst (v := 1) hx hb dX10_count_130 (by decide) ?_
              refine lv_goto (tgt := 135) hx hb dX10_count_131 (by decide) ?_
              refine lv_iadd hx hb dX10_count_135 ?_
              refine r_vi hf (fun x18 hf => ?_)
              refine lv_istore_n (lv' := [(2, .int x18), (4, .int x16), (0, .ref (ad o)), (1, .int p1), (3, .int v10)]) hx hb dX10_count_136 rfl hl (by decide) rfl (fun ls hl => ?_)
              refine lv_iinc (v := (v10 + 1)) (lv' := [(3, .int (v10 + 1)), (2, .int x18), (4, .int x16), (0, .ref (ad o)), (1, .int p1)]) hx hb dX10_count_137 hl (k := 4) rfl rfl (by decide) rfl (fun ls hl => ?_)
              refine lv_goto (tgt := 80) hx hb dX10_count_140 (by decide) ?_
              exact ih11 x18 (v10 + 1) M H locs ls (lv_sub hl [3, 4, 1, 0] rfl) hP hS hf
          · refine lv_aload_n hx hb dX10_count_110 rfl (lv_at hl 1 rfl) ?_
            refine lv_iload_n hx hb dX10_count_111 rfl (lv_at hl 4 rfl) ?_
            refine lv_iload hx hb dX10_count_112 (lv_at hl 0 rfl) ?_
            refine r_callV (As := [.int v10, .int x16]) (rest := [.int v9]) S hK hE hst hP hS h0 (by decide) rfl (cw_X10_144 ht ⟨Nat.le_of_ble_eq_true rfl, Nat.le_of_ble_eq_true rfl⟩) rfl hl.1 rfl (Nat.le_of_ble_eq_true rfl) dX10_count_114 z2 (fun _ _ h => c_X10_fits hG  h0 h) hf (fun x19 M H locs hP hS bx19 hf => ?_)
            refine r_if_eq (tgt := 134) S dX10_count_117 (by decide) hf (fun hf => ?_) (fun hf => ?_)
            · refine lv_iconst (v := 0) hx hb dX10_count_134 (by decide) ?_
              refine lv_iadd hx hb dX10_count_135 ?_
              refine r_vi hf (fun x20 hf => ?_)
              refine lv_istore_n (lv' := [(2, .int x20), (4, .int x16), (0, .ref (ad o)), (1, .int p1), (3, .int v10)]) hx hb dX10_count_136 rfl hl (by decide) rfl (fun ls hl => ?_)
              refine lv_iinc (v := (v10 + 1)) (lv' := [(3, .int (v10 + 1)), (2, .int x20), (4, .int x16), (0, .ref (ad o)), (1, .int p1)]) hx hb dX10_count_137 hl (k := 4) rfl rfl (by decide) rfl (fun ls hl => ?_)
              refine lv_goto (tgt := 80) hx hb dX10_count_140 (by decide) ?_
              exact ih11 x20 (v10 + 1) M H locs ls (lv_sub hl [3, 4, 1, 0] rfl) hP hS hf
            · refine lv_goto (tgt := 130) hx hb dX10_count_120 (by decide) ?_
              refine lv_iconst (v := 1) hx hb dX10_count_130 (by decide) ?_
              refine lv_goto (tgt := 135) hx hb dX10_count_131 (by decide) ?_
              refine lv_iadd hx hb dX10_count_135 ?_
              refine r_vi hf (fun x21 hf => ?_)
              refine lv_istore_n (lv' := [(2, .int x21), (4, .int x16), (0, .ref (ad o)), (1, .int p1), (3, .int v10)]) hx hb dX10_count_136 rfl hl (by decide) rfl (fun ls hl => ?_)
              refine lv_iinc (v := (v10 + 1)) (lv' := [(3, .int (v10 + 1)), (2, .int x21), (4, .int x16), (0, .ref (ad o)), (1, .int p1)]) hx hb dX10_count_137 hl (k := 4) rfl rfl (by decide) rfl (fun ls hl => ?_)
              refine lv_goto (tgt := 80) hx hb dX10_count_140 (by decide) ?_
              exact ih11 x21 (v10 + 1) M H locs ls (lv_sub hl [3, 4, 1, 0] rfl) hP hS hf
    exact L11 _ 0 0 M H locs ls (lv_sub hl [2, 3, 1, 0] rfl) hP hS hf
  refine r_case hf (fun e37 hf => ?_) (fun n38 hf => ?_)
  · refine lv_tableIn (x := p1) (tgt := 78) hx hb dX10_count_3 (by rw [e37]; decide) (by rw [e37]; decide) (by rw [e37]; rfl) (by decide) ?_
    refine lv_iconst (v := 0) hx hb dX10_count_78 (by decide) ?_
    refine lv_istore_n (lv' := [(3, .int 0), (2, .int 0), (0, .ref (ad o)), (1, .int p1)]) hx hb dX10_count_79 rfl hl (by decide) rfl (fun ls hl => ?_)
    obtain ⟨F26, hF26, hf⟩ := it2_g hf
    have L26 : ∀ (n : Nat) (v24 : Int32) (v25 : Int32) (M : Mem) (H : Heap) (locs : List Loc) (ls : Array Slot), lv_has ls 5 [(0, .ref (ad o)), (1, .int p1), (2, .int v24), (3, .int v25)] → va_P D classes (gws K G2 ad M) H → va_S A s.heap H locs → it2 F26 n v24 v25 M = some (r, M') → W p l e rm_X10_count s m args below meth c H locs 0 0 Q (F0 m 80 ls []) := by
      intro n
      induction n with
      | zero => intro v24 v25 M H locs ls hl hP hS hf; exact nomatch hf
      | succ n ih26 =>
        intro v24 v25 M H locs ls hl hP hS hf
        obtain ⟨rc26, hrc26, hf⟩ := it2_w hf
        rw [← hrc26] at ih26
        rw [hF26] at hf
        refine lv_iload_n hx hb dX10_count_80 rfl (lv_at hl 3 rfl) ?_
        refine lv_aload_n hx hb dX10_count_81 rfl (lv_at hl 0 rfl) ?_
        refine gf_X10_7 S hK hP h0 dX10_count_82 hf (fun x27 hx27 hf => ?_)
        refine lv_iconst (v := 1) hx hb dX10_count_85 (by decide) ?_
        refine r_iald S hK hP hx27 dX10_count_86 hf (fun x28 hf => ?_)
        refine r_icmp_ge (tgt := 143) S dX10_count_87 (by decide) hf (fun hf => ?_) (fun hf => ?_)
        · refine lv_iload_n hx hb dX10_count_143 rfl (lv_at hl 2 rfl) ?_
          exact hret _ _ _ _ _ _ dX10_count_144 hP hS rfl hf
        · refine lv_aload_n hx hb dX10_count_90 rfl (lv_at hl 0 rfl) ?_
          refine gf_X10_7 S hK hP h0 dX10_count_91 hf (fun x29 hx29 hf => ?_)
          refine lv_aload_n hx hb dX10_count_94 rfl (lv_at hl 0 rfl) ?_
          refine lv_iload_n hx hb dX10_count_95 rfl (lv_at hl 3 rfl) ?_
          refine r_callV (As := [.int v25]) (rest := [.ref (ad x29)]) S hK hE hst hP hS h0 (by decide) rfl (cw_X10_87 ht ⟨Nat.le_of_ble_eq_true rfl, Nat.le_of_ble_eq_true rfl⟩) rfl hl.1 rfl (Nat.le_of_ble_eq_true rfl) dX10_count_96 z2 (fun _ _ h => c_X10_figureAt hG  h0 h) hf (fun x30 M H locs hP hS bx30 hf => ?_)
          refine lv_iconst (v := 1) hx hb dX10_count_99 (by decide) ?_
          refine lv_iadd hx hb dX10_count_100 ?_
          refine r_iald S hK hP hx29 dX10_count_101 hf (fun x31 hf => ?_)
          refine lv_istore (lv' := [(4, .int x31), (0, .ref (ad o)), (1, .int p1), (2, .int v24), (3, .int v25)]) hx hb dX10_count_102 hl (by decide) rfl (fun ls hl => ?_)
          refine lv_iload_n hx hb dX10_count_104 rfl (lv_at hl 3 rfl) ?_
          refine lv_iload_n hx hb dX10_count_105 rfl (lv_at hl 2 rfl) ?_
          refine lv_iconst (v := 2) hx hb dX10_count_106 (by decide) ?_
          refine r_icmp_ne (tgt := 123) S dX10_count_107 (by decide) hf (fun hf => ?_) (fun hf => ?_)
          · refine lv_iload hx hb dX10_count_123 (lv_at hl 0 rfl) ?_
            refine lv_bipush (v := 6) hx hb dX10_count_125 (by decide) ?_
            refine r_icmp_lt (tgt := 134) S dX10_count_127 (by decide) hf (fun hf => ?_) (fun hf => ?_)
            · refine lv_iconst (v := 0) hx hb dX10_count_134 (by decide) ?_
              refine lv_iadd hx hb dX10_count_135 ?_
              refine r_vi hf (fun x32 hf => ?_)
              refine lv_istore_n (lv' := [(2, .int x32), (4, .int x31), (0, .ref (ad o)), (1, .int p1), (3, .int v25)]) hx hb dX10_count_136 rfl hl (by decide) rfl (fun ls hl => ?_)
              refine lv_iinc (v := (v25 + 1)) (lv' := [(3, .int (v25 + 1)), (2, .int x32), (4, .int x31), (0, .ref (ad o)), (1, .int p1)]) hx hb dX10_count_137 hl (k := 4) rfl rfl (by decide) rfl (fun ls hl => ?_)
              refine lv_goto (tgt := 80) hx hb dX10_count_140 (by decide) ?_
              exact ih26 x32 (v25 + 1) M H locs ls (lv_sub hl [3, 4, 1, 0] rfl) hP hS hf
            · refine lv_iconst (v := 1) hx hb dX10_count_130 (by decide) ?_
              refine lv_goto (tgt := 135) hx hb dX10_count_131 (by decide) ?_
              refine lv_iadd hx hb dX10_count_135 ?_
              refine r_vi hf (fun x33 hf => ?_)
              refine lv_istore_n (lv' := [(2, .int x33), (4, .int x31), (0, .ref (ad o)), (1, .int p1), (3, .int v25)]) hx hb dX10_count_136 rfl hl (by decide) rfl (fun ls hl => ?_)
              refine lv_iinc (v := (v25 + 1)) (lv' := [(3, .int (v25 + 1)), (2, .int x33), (4, .int x31), (0, .ref (ad o)), (1, .int p1)]) hx hb dX10_count_137 hl (k := 4) rfl rfl (by decide) rfl (fun ls hl => ?_)
              refine lv_goto (tgt := 80) hx hb dX10_count_140 (by decide) ?_
              exact ih26 x33 (v25 + 1) M H locs ls (lv_sub hl [3, 4, 1, 0] rfl) hP hS hf
          · refine lv_aload_n hx hb dX10_count_110 rfl (lv_at hl 1 rfl) ?_
            refine lv_iload_n hx hb dX10_count_111 rfl (lv_at hl 4 rfl) ?_
            refine lv_iload hx hb dX10_count_112 (lv_at hl 0 rfl) ?_
            refine r_callV (As := [.int v25, .int x31]) (rest := [.int v24]) S hK hE hst hP hS h0 (by decide) rfl (cw_X10_144 ht ⟨Nat.le_of_ble_eq_true rfl, Nat.le_of_ble_eq_true rfl⟩) rfl hl.1 rfl (Nat.le_of_ble_eq_true rfl) dX10_count_114 z2 (fun _ _ h => c_X10_fits hG  h0 h) hf (fun x34 M H locs hP hS bx34 hf => ?_)
            refine r_if_eq (tgt := 134) S dX10_count_117 (by decide) hf (fun hf => ?_) (fun hf => ?_)
            · refine lv_iconst (v := 0) hx hb dX10_count_134 (by decide) ?_
              refine lv_iadd hx hb dX10_count_135 ?_
              refine r_vi hf (fun x35 hf => ?_)
              refine lv_istore_n (lv' := [(2, .int x35), (4, .int x31), (0, .ref (ad o)), (1, .int p1), (3, .int v25)]) hx hb dX10_count_136 rfl hl (by decide) rfl (fun ls hl => ?_)
              refine lv_iinc (v := (v25 + 1)) (lv' := [(3, .int (v25 + 1)), (2, .int x35), (4, .int x31), (0, .ref (ad o)), (1, .int p1)]) hx hb dX10_count_137 hl (k := 4) rfl rfl (by decide) rfl (fun ls hl => ?_)
              refine lv_goto (tgt := 80) hx hb dX10_count_140 (by decide) ?_
              exact ih26 x35 (v25 + 1) M H locs ls (lv_sub hl [3, 4, 1, 0] rfl) hP hS hf
            · refine lv_goto (tgt := 130) hx hb dX10_count_120 (by decide) ?_
              refine lv_iconst (v := 1) hx hb dX10_count_130 (by decide) ?_
              refine lv_goto (tgt := 135) hx hb dX10_count_131 (by decide) ?_
              refine lv_iadd hx hb dX10_count_135 ?_
              refine r_vi hf (fun x36 hf => ?_)
              refine lv_istore_n (lv' := [(2, .int x36), (4, .int x31), (0, .ref (ad o)), (1, .int p1), (3, .int v25)]) hx hb dX10_count_136 rfl hl (by decide) rfl (fun ls hl => ?_)
              refine lv_iinc (v := (v25 + 1)) (lv' := [(3, .int (v25 + 1)), (2, .int x36), (4, .int x31), (0, .ref (ad o)), (1, .int p1)]) hx hb dX10_count_137 hl (k := 4) rfl rfl (by decide) rfl (fun ls hl => ?_)
              refine lv_goto (tgt := 80) hx hb dX10_count_140 (by decide) ?_
              exact ih26 x36 (v25 + 1) M H locs ls (lv_sub hl [3, 4, 1, 0] rfl) hP hS hf
    exact L26 _ 0 0 M H locs ls (lv_sub hl [2, 3, 1, 0] rfl) hP hS hf
  refine r_case hf (fun e41 hf => ?_) (fun n42 hf => ?_)
  · refine lv_tableIn (x := p1) (tgt := 145) hx hb dX10_count_3 (by rw [e41]; decide) (by rw [e41]; decide) (by rw [e41]; rfl) (by decide) ?_
    refine lv_aload_n hx hb dX10_count_145 rfl (lv_at hl 1 rfl) ?_
    refine gf_X10_7 S hK hP h0 dX10_count_146 hf (fun x39 hx39 hf => ?_)
    refine lv_iconst (v := 2) hx hb dX10_count_149 (by decide) ?_
    refine r_iald S hK hP hx39 dX10_count_150 hf (fun x40 hf => ?_)
    exact hret _ _ _ _ _ _ dX10_count_151 hP hS rfl hf
  refine r_case hf (fun e45 hf => ?_) (fun n46 hf => ?_)
  · refine lv_tableIn (x := p1) (tgt := 152) hx hb dX10_count_3 (by rw [e45]; decide) (by rw [e45]; decide) (by rw [e45]; rfl) (by decide) ?_
    refine lv_aload_n hx hb dX10_count_152 rfl (lv_at hl 1 rfl) ?_
    refine gf_X10_7 S hK hP h0 dX10_count_153 hf (fun x43 hx43 hf => ?_)
    refine lv_iconst (v := 3) hx hb dX10_count_156 (by decide) ?_
    refine r_iald S hK hP hx43 dX10_count_157 hf (fun x44 hf => ?_)
    exact hret _ _ _ _ _ _ dX10_count_158 hP hS rfl hf
  refine r_case hf (fun e49 hf => ?_) (fun n50 hf => ?_)
  · refine lv_tableIn (x := p1) (tgt := 159) hx hb dX10_count_3 (by rw [e49]; decide) (by rw [e49]; decide) (by rw [e49]; rfl) (by decide) ?_
    refine lv_aload_n hx hb dX10_count_159 rfl (lv_at hl 1 rfl) ?_
    refine gf_X10_7 S hK hP h0 dX10_count_160 hf (fun x47 hx47 hf => ?_)
    refine lv_iconst (v := 4) hx hb dX10_count_163 (by decide) ?_
    refine r_iald S hK hP hx47 dX10_count_164 hf (fun x48 hf => ?_)
    exact hret _ _ _ _ _ _ dX10_count_165 hP hS rfl hf
  refine r_case hf (fun e53 hf => ?_) (fun n54 hf => ?_)
  · refine lv_tableIn (x := p1) (tgt := 166) hx hb dX10_count_3 (by rw [e53]; decide) (by rw [e53]; decide) (by rw [e53]; rfl) (by decide) ?_
    refine lv_aload_n hx hb dX10_count_166 rfl (lv_at hl 1 rfl) ?_
    refine gf_X10_7 S hK hP h0 dX10_count_167 hf (fun x51 hx51 hf => ?_)
    refine lv_iconst (v := 5) hx hb dX10_count_170 (by decide) ?_
    refine r_iald S hK hP hx51 dX10_count_171 hf (fun x52 hf => ?_)
    exact hret _ _ _ _ _ _ dX10_count_172 hP hS rfl hf
  refine r_case hf (fun e57 hf => ?_) (fun n58 hf => ?_)
  · refine lv_tableIn (x := p1) (tgt := 173) hx hb dX10_count_3 (by rw [e57]; decide) (by rw [e57]; decide) (by rw [e57]; rfl) (by decide) ?_
    refine lv_aload_n hx hb dX10_count_173 rfl (lv_at hl 1 rfl) ?_
    refine gf_X10_7 S hK hP h0 dX10_count_174 hf (fun x55 hx55 hf => ?_)
    refine lv_bipush (v := 6) hx hb dX10_count_177 (by decide) ?_
    refine r_iald S hK hP hx55 dX10_count_179 hf (fun x56 hf => ?_)
    exact hret _ _ _ _ _ _ dX10_count_180 hP hS rfl hf
  refine r_case hf (fun e60 hf => ?_) (fun n61 hf => ?_)
  · refine lv_tableIn (x := p1) (tgt := 181) hx hb dX10_count_3 (by rw [e60]; decide) (by rw [e60]; decide) (by rw [e60]; rfl) (by decide) ?_
    refine lv_aload_n hx hb dX10_count_181 rfl (lv_at hl 1 rfl) ?_
    refine gf_X10_378 S hK hP h0 dX10_count_182 hf (fun x59 hf => ?_)
    exact hret _ _ _ _ _ _ dX10_count_185 hP hS rfl hf
  refine r_case hf (fun e63 hf => ?_) (fun n64 hf => ?_)
  · refine lv_tableIn (x := p1) (tgt := 186) hx hb dX10_count_3 (by rw [e63]; decide) (by rw [e63]; decide) (by rw [e63]; rfl) (by decide) ?_
    refine lv_aload_n hx hb dX10_count_186 rfl (lv_at hl 1 rfl) ?_
    refine gf_X10_158 S hK hP h0 dX10_count_187 hf (fun x62 hf => ?_)
    exact hret _ _ _ _ _ _ dX10_count_190 hP hS rfl hf
  refine r_case hf (fun e67 hf => ?_) (fun n68 hf => ?_)
  · refine lv_tableIn (x := p1) (tgt := 191) hx hb dX10_count_3 (by rw [e67]; decide) (by rw [e67]; decide) (by rw [e67]; rfl) (by decide) ?_
    refine lv_aload_n hx hb dX10_count_191 rfl (lv_at hl 1 rfl) ?_
    refine gf_X10_7 S hK hP h0 dX10_count_192 hf (fun x65 hx65 hf => ?_)
    refine lv_bipush (v := 7) hx hb dX10_count_195 (by decide) ?_
    refine r_iald S hK hP hx65 dX10_count_197 hf (fun x66 hf => ?_)
    exact hret _ _ _ _ _ _ dX10_count_198 hP hS rfl hf
  refine lv_tableOut (x := p1) (tgt := 199) hx hb dX10_count_3 (by have q0 := lv_neT (a := 0) n4 (by decide); have q1 := lv_neT (a := 1) n8 (by decide); have q2 := lv_neT (a := 2) n23 (by decide); have q3 := lv_neT (a := 3) n38 (by decide); have q4 := lv_neT (a := 4) n42 (by decide); have q5 := lv_neT (a := 5) n46 (by decide); have q6 := lv_neT (a := 6) n50 (by decide); have q7 := lv_neT (a := 7) n54 (by decide); have q8 := lv_neT (a := 8) n58 (by decide); have q9 := lv_neT (a := 9) n61 (by decide); have q10 := lv_neT (a := 10) n64 (by decide); have q11 := lv_neT (a := 11) n68 (by decide); omega) (by decide) ?_
  refine lv_ldc (v := (-1000000001)) hx hb hown (ht _ k_1232) dX10_count_199 ?_
  exact hret _ _ _ _ _ _ dX10_count_201 hP hS rfl hf
