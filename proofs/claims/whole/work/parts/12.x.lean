theorem cw_X6_160 {R : Room} {s : State} {args : Array Value} (ht : ∀ w ∈ Tw, w.before args s = true) (hR : rm_X3_lengthOf.frames + 1 ≤ R.frames ∧ 8 + (2 + 11) + rm_X3_lengthOf.locals ≤ R.locals) : CallW R s args RX6 RX3 160 yX3_lengthOf cX3_lengthOf 2 (some .int) (ws_of yX3_lengthOf cX3_lengthOf 2 (some .int)) rm_X3_lengthOf 0 0 1 := cw_V 1 ht k_772 k_749 k_750 k_67 k_751 (by decide +kernel) rfl rfl hR
theorem cw_X6_163 {R : Room} {s : State} {args : Array Value} (ht : ∀ w ∈ Tw, w.before args s = true) (hR : rm_X3_at.frames + 1 ≤ R.frames ∧ 8 + (3 + 11) + rm_X3_at.locals ≤ R.locals) : CallW R s args RX6 RX3 163 yX3_at cX3_at 3 (some .int) (ws_of yX3_at cX3_at 3 (some .int)) rm_X3_at 0 0 2 := cw_V 2 ht k_773 k_753 k_754 k_67 k_755 (by decide +kernel) rfl rfl hR
section
variable {p : Program} {l : Launch} {e : Env} {R : Room} {s : State} {m : MethodId} {args : Array Value} {below : List Frame} {meth : Method} {c : Code} {H : Heap} {locs : List Loc} {cells slots : Nat} {Q : State → Prop} {cc : ByteArray} {pc : Nat} {ls : Array Slot} {rest : List Value} {nL : Nat} {D : va_G} {K : Ks} {ad : Nat → Nat} {A : Nat → Prop} {M : Mem} {β : Type} {z : β}
theorem gf_X6_57 (S : CallFix p m c cc nL s args Tw RX6) (hK : va_K D classes (gty K) s) (hP : va_P D classes (gws K G1 ad M) H) {a : Nat} {kk : Nat → Option β} (ha : gcl G1 a = 6) (hdg : decode cc pc = .ok (.getfield 57, 3)) (hf : vv (grf G1 a 9) kk = some z) (w : ∀ b, gcl G1 b = 20 ∧ gsz G1 b = 12 → kk b = some z → W p l e R s m args below meth c H locs cells slots Q (F0 m (pc + 3) ls (.ref (ad b) :: rest))) : W p l e R s m args below meth c H locs cells slots Q (F0 m pc ls (.ref (ad a) :: rest)) := r_getr S hK hP (T := TX6) inX6 rfl (by decide) (by decide) ha (sf_X6_9 ha).1 k_254 hdg hf (fun b e => w b (by rw [e]; exact (sf_X6_9 ha).2))
end
def f_X6_layLine (o : Nat) (p1 : Int32) (M : Mem) : Option (Int32 × Mem) :=
  vv (grf G1 o 2) fun x1 =>
  bd (f_X3_lengthOf x1 p1 M) fun x2 M =>
  it1 (fun rc4 (v3 : Int32) M =>
    if v3 < x2 then
      vv (grf G1 o 2) fun x5 =>
      bd (f_X3_at x5 p1 v3 M) fun x6 M =>
      vv (grf G1 o 0) fun x7 =>
      bd (f_X0_has x7 x6 M) fun x8 M =>
      if x8 = 0 then
        rc4 (v3 + 1) M
      else
        vv (grf G1 o 9) fun x9 =>
        vv (grf G1 o 0) fun x10 =>
        vv (grf G1 x10 5) fun x11 =>
        ld M x11 x6 40 fun x12 =>
        st M x9 v3 12 x12 fun M =>
        rc4 (v3 + 1) M
    else
      some (x2, M)
  ) fuel 0 M
def rm_X6_layLine : Room := { frames := 2, cells := 0, slots := 0, locals := 43 }
set_option maxHeartbeats 4000000 in
set_option maxRecDepth 100000 in
theorem c_X6_layLine {l : Launch} {D : va_G} {K : Ks} {ad : Nat → Nat} {A : Nat → Prop} {tC tA tP : Nat} {kK kV : Nat → Nat} (hG : Gok G1 ad A) {o : Nat} {p1 : Int32} (h0 : gcl G1 o = 6) {M : Mem} {r : Int32} {M' : Mem} (hf : f_X6_layLine o p1 M = some (r, M')) : Ct l (E1 A tC tA tP kK kV) D K G1 ad A yX6_layLine (ws_of yX6_layLine cX6_layLine 5 (some .int)) rm_X6_layLine .int [.ref (ad o), .int p1] M r M' := by
  have hst : Est A (E1 A tC tA tP kK kV) := est1
  refine Ct.ofW (by decide) (Nat.le_of_ble_eq_true rfl) ?_
  intro p e s m args below meth c Q H locs ls S hK hE hP hS hl hret
  have hx := S.1
  have hb := S.2.1
  have hown := S.2.2.2.1
  have ht := S.2.2.2.2
  have hl : lv_has ls 5 [(0, .ref (ad o)), (1, .int p1)] := hl
  unfold f_X6_layLine at hf
  refine lv_aload_n hx hb dX6_layLine_0 rfl (lv_at hl 0 rfl) ?_
  refine gf_X6_28 S hK hP h0 dX6_layLine_1 hf (fun x1 hx1 hf => ?_)
  refine lv_iload_n hx hb dX6_layLine_4 rfl (lv_at hl 1 rfl) ?_
  refine r_callV (As := [.int p1]) (rest := []) S hK hE hst hP hS hx1 (by decide) rfl (cw_X6_160 ht ⟨Nat.le_of_ble_eq_true rfl, Nat.le_of_ble_eq_true rfl⟩) rfl hl.1 rfl (Nat.le_of_ble_eq_true rfl) dX6_layLine_5 z2 (fun _ _ h => c_X3_lengthOf hG  hx1 h) hf (fun x2 M H locs hP hS bx2 hf => ?_)
  refine lv_istore_n (lv' := [(2, .int x2), (0, .ref (ad o)), (1, .int p1)]) hx hb dX6_layLine_8 rfl hl (by decide) rfl (fun ls hl => ?_)
  refine lv_iconst (v := 0) hx hb dX6_layLine_9 (by decide) ?_
  refine lv_istore_n (lv' := [(3, .int 0), (2, .int x2), (0, .ref (ad o)), (1, .int p1)]) hx hb dX6_layLine_10 rfl hl (by decide) rfl (fun ls hl => ?_)
  obtain ⟨F4, hF4, hf⟩ := it1_g hf
  have L4 : ∀ (n : Nat) (v3 : Int32) (M : Mem) (H : Heap) (locs : List Loc) (ls : Array Slot), lv_has ls 5 [(0, .ref (ad o)), (1, .int p1), (2, .int x2), (3, .int v3)] → va_P D classes (gws K G1 ad M) H → va_S A s.heap H locs → it1 F4 n v3 M = some (r, M') → W p l e rm_X6_layLine s m args below meth c H locs 0 0 Q (F0 m 11 ls []) := by
    intro n
    induction n with
    | zero => intro v3 M H locs ls hl hP hS hf; exact nomatch hf
    | succ n ih4 =>
      intro v3 M H locs ls hl hP hS hf
      obtain ⟨rc4, hrc4, hf⟩ := it1_w hf
      rw [← hrc4] at ih4
      rw [hF4] at hf
      refine lv_iload_n hx hb dX6_layLine_11 rfl (lv_at hl 3 rfl) ?_
      refine lv_iload_n hx hb dX6_layLine_12 rfl (lv_at hl 2 rfl) ?_
      refine r_icmp_ge (tgt := 61) S dX6_layLine_13 (by decide) hf (fun hf => ?_) (fun hf => ?_)
      · refine lv_iload_n hx hb dX6_layLine_61 rfl (lv_at hl 2 rfl) ?_
        exact hret _ _ _ _ _ _ dX6_layLine_62 hP hS rfl hf
      · refine lv_aload_n hx hb dX6_layLine_16 rfl (lv_at hl 0 rfl) ?_
        refine gf_X6_28 S hK hP h0 dX6_layLine_17 hf (fun x5 hx5 hf => ?_)
        refine lv_iload_n hx hb dX6_layLine_20 rfl (lv_at hl 1 rfl) ?_
        refine lv_iload_n hx hb dX6_layLine_21 rfl (lv_at hl 3 rfl) ?_
        refine r_callV (As := [.int p1, .int v3]) (rest := []) S hK hE hst hP hS hx5 (by decide) rfl (cw_X6_163 ht ⟨Nat.le_of_ble_eq_true rfl, Nat.le_of_ble_eq_true rfl⟩) rfl hl.1 rfl (Nat.le_of_ble_eq_true rfl) dX6_layLine_22 z2 (fun _ _ h => c_X3_at hG  hx5 h) hf (fun x6 M H locs hP hS bx6 hf => ?_)
        refine lv_istore (lv' := [(4, .int x6), (0, .ref (ad o)), (1, .int p1), (2, .int x2), (3, .int v3)]) hx hb dX6_layLine_25 hl (by decide) rfl (fun ls hl => ?_)
        refine lv_aload_n hx hb dX6_layLine_27 rfl (lv_at hl 1 rfl) ?_
        refine gf_X6_12 S hK hP h0 dX6_layLine_28 hf (fun x7 hx7 hf => ?_)
        refine lv_iload hx hb dX6_layLine_31 (lv_at hl 0 rfl) ?_
        refine r_callV (As := [.int x6]) (rest := []) S hK hE hst hP hS hx7 (by decide) rfl (cw_X6_114 ht ⟨Nat.le_of_ble_eq_true rfl, Nat.le_of_ble_eq_true rfl⟩) rfl hl.1 rfl (Nat.le_of_ble_eq_true rfl) dX6_layLine_33 z2 (fun _ _ h => c_X0_has hG  hx7 h) hf (fun x8 M H locs hP hS bx8 hf => ?_)
        refine r_if_eq (tgt := 55) S dX6_layLine_36 (by decide) hf (fun hf => ?_) (fun hf => ?_)
        · refine lv_iinc (v := (v3 + 1)) (lv' := [(3, .int (v3 + 1)), (4, .int x6), (0, .ref (ad o)), (1, .int p1), (2, .int x2)]) hx hb dX6_layLine_55 hl (k := 4) rfl rfl (by decide) rfl (fun ls hl => ?_)
          refine lv_goto (tgt := 11) hx hb dX6_layLine_58 (by decide) ?_
          exact ih4 (v3 + 1) M H locs ls (lv_sub hl [2, 3, 4, 0] rfl) hP hS hf
        · refine lv_aload_n hx hb dX6_layLine_39 rfl (lv_at hl 1 rfl) ?_
          refine gf_X6_57 S hK hP h0 dX6_layLine_40 hf (fun x9 hx9 hf => ?_)
          refine lv_iload_n hx hb dX6_layLine_43 rfl (lv_at hl 4 rfl) ?_
          refine lv_aload_n hx hb dX6_layLine_44 rfl (lv_at hl 1 rfl) ?_
          refine gf_X6_12 S hK hP h0 dX6_layLine_45 hf (fun x10 hx10 hf => ?_)
          refine gf_X6_118 S hK hP hx10 dX6_layLine_48 hf (fun x11 hx11 hf => ?_)
          refine lv_iload hx hb dX6_layLine_51 (lv_at hl 0 rfl) ?_
          refine r_iald S hK hP hx11 dX6_layLine_53 hf (fun x12 hf => ?_)
          refine r_iast S hK hG hP hS hx9 dX6_layLine_54 hf (fun M H locs hP hS hf => ?_)
          refine lv_iinc (v := (v3 + 1)) (lv' := [(3, .int (v3 + 1)), (4, .int x6), (0, .ref (ad o)), (1, .int p1), (2, .int x2)]) hx hb dX6_layLine_55 hl (k := 4) rfl rfl (by decide) rfl (fun ls hl => ?_)
          refine lv_goto (tgt := 11) hx hb dX6_layLine_58 (by decide) ?_
          exact ih4 (v3 + 1) M H locs ls (lv_sub hl [2, 3, 4, 0] rfl) hP hS hf
  exact L4 _ 0 M H locs ls (lv_sub hl [2, 3, 1, 0] rfl) hP hS hf
def f_X6_odds (o : Nat) (p1 : Int32) (p2 : Int32) (p3 : Int32) (M : Mem) : Option (Int32 × Mem) :=
  it2 (fun rc3 (v1 : Int64) (v2 : Int32) M =>
    if v2 < p3 then
      vv (grf G1 o 2) fun x4 =>
      bd (f_X3_at x4 p1 (p2 + v2) M) fun x5 M =>
      vv (grf G1 o 0) fun x6 =>
      bd (f_X0_has x6 x5 M) fun x7 M =>
      if x7 = 0 then
        rc3 v1 (v2 + 1) M
      else
        bd (f_X6_spreadOf o x5 M) fun x8 M =>
        vv (if 1000000000 < (v1 * (Int32.toInt64 ((2 * x8) + 1))) then 1000000000 else (v1 * (Int32.toInt64 ((2 * x8) + 1)))) fun x9 =>
        rc3 x9 (v2 + 1) M
    else
      some ((Int64.toInt32 v1), M)
  ) fuel 1 1 M
def rm_X6_odds : Room := { frames := 4, cells := 0, slots := 0, locals := 93 }
set_option maxHeartbeats 4000000 in
set_option maxRecDepth 100000 in
theorem c_X6_odds {l : Launch} {D : va_G} {K : Ks} {ad : Nat → Nat} {A : Nat → Prop} {tC tA tP : Nat} {kK kV : Nat → Nat} (hG : Gok G1 ad A) {o : Nat} {p1 : Int32} {p2 : Int32} {p3 : Int32} (h0 : gcl G1 o = 6) {M : Mem} {r : Int32} {M' : Mem} (hf : f_X6_odds o p1 p2 p3 M = some (r, M')) : Ct l (E1 A tC tA tP kK kV) D K G1 ad A yX6_odds (ws_of yX6_odds cX6_odds 8 (some .int)) rm_X6_odds .int [.ref (ad o), .int p1, .int p2, .int p3] M r M' := by
  have hst : Est A (E1 A tC tA tP kK kV) := est1
  refine Ct.ofW (by decide) (Nat.le_of_ble_eq_true rfl) ?_
  intro p e s m args below meth c Q H locs ls S hK hE hP hS hl hret
  have hx := S.1
  have hb := S.2.1
  have hown := S.2.2.2.1
  have ht := S.2.2.2.2
  have hl : lv_has ls 8 [(0, .ref (ad o)), (1, .int p1), (2, .int p2), (3, .int p3)] := hl
  unfold f_X6_odds at hf
  refine lv_lconst (v := 1) hx hb dX6_odds_0 (by decide) ?_
  refine lv_lstore (lv' := [(4, .long 1), (0, .ref (ad o)), (1, .int p1), (2, .int p2), (3, .int p3)]) hx hb dX6_odds_1 hl (by decide) rfl (fun ls hl => ?_)
  refine lv_iconst (v := 1) hx hb dX6_odds_3 (by decide) ?_
  refine lv_istore (lv' := [(6, .int 1), (4, .long 1), (0, .ref (ad o)), (1, .int p1), (2, .int p2), (3, .int p3)]) hx hb dX6_odds_4 hl (by decide) rfl (fun ls hl => ?_)
  obtain ⟨F3, hF3, hf⟩ := it2_g hf
  have L3 : ∀ (n : Nat) (v1 : Int64) (v2 : Int32) (M : Mem) (H : Heap) (locs : List Loc) (ls : Array Slot), lv_has ls 8 [(0, .ref (ad o)), (1, .int p1), (2, .int p2), (3, .int p3), (4, .long v1), (6, .int v2)] → va_P D classes (gws K G1 ad M) H → va_S A s.heap H locs → it2 F3 n v1 v2 M = some (r, M') → W p l e rm_X6_odds s m args below meth c H locs 0 0 Q (F0 m 6 ls []) := by
    intro n
    induction n with
    | zero => intro v1 v2 M H locs ls hl hP hS hf; exact nomatch hf
    | succ n ih3 =>
      intro v1 v2 M H locs ls hl hP hS hf
      obtain ⟨rc3, hrc3, hf⟩ := it2_w hf
      rw [← hrc3] at ih3
      rw [hF3] at hf
      refine lv_iload hx hb dX6_odds_6 (lv_at hl 5 rfl) ?_
      refine lv_iload_n hx hb dX6_odds_8 rfl (lv_at hl 3 rfl) ?_
      refine r_icmp_ge (tgt := 66) S dX6_odds_9 (by decide) hf (fun hf => ?_) (fun hf => ?_)
      · refine lv_lload hx hb dX6_odds_66 (lv_at hl 4 rfl) ?_
        refine lv_l2i (v := (Int64.toInt32 v1)) hx hb dX6_odds_68 rfl ?_
        exact hret _ _ _ _ _ _ dX6_odds_69 hP hS rfl hf
      · refine lv_aload_n hx hb dX6_odds_12 rfl (lv_at hl 0 rfl) ?_
        refine gf_X6_28 S hK hP h0 dX6_odds_13 hf (fun x4 hx4 hf => ?_)
        refine lv_iload_n hx hb dX6_odds_16 rfl (lv_at hl 1 rfl) ?_
        refine lv_iload_n hx hb dX6_odds_17 rfl (lv_at hl 2 rfl) ?_
        refine lv_iload hx hb dX6_odds_18 (lv_at hl 5 rfl) ?_
        refine lv_iadd hx hb dX6_odds_20 ?_
        refine r_callV (As := [.int p1, .int (p2 + v2)]) (rest := []) S hK hE hst hP hS hx4 (by decide) rfl (cw_X6_163 ht ⟨Nat.le_of_ble_eq_true rfl, Nat.le_of_ble_eq_true rfl⟩) rfl hl.1 rfl (Nat.le_of_ble_eq_true rfl) dX6_odds_21 z2 (fun _ _ h => c_X3_at hG  hx4 h) hf (fun x5 M H locs hP hS bx5 hf => ?_)
        refine lv_istore (lv' := [(7, .int x5), (0, .ref (ad o)), (1, .int p1), (2, .int p2), (3, .int p3), (4, .long v1), (6, .int v2)]) hx hb dX6_odds_24 hl (by decide) rfl (fun ls hl => ?_)
        refine lv_aload_n hx hb dX6_odds_26 rfl (lv_at hl 1 rfl) ?_
        refine gf_X6_12 S hK hP h0 dX6_odds_27 hf (fun x6 hx6 hf => ?_)
        refine lv_iload hx hb dX6_odds_30 (lv_at hl 0 rfl) ?_
        refine r_callV (As := [.int x5]) (rest := []) S hK hE hst hP hS hx6 (by decide) rfl (cw_X6_114 ht ⟨Nat.le_of_ble_eq_true rfl, Nat.le_of_ble_eq_true rfl⟩) rfl hl.1 rfl (Nat.le_of_ble_eq_true rfl) dX6_odds_32 z2 (fun _ _ h => c_X0_has hG  hx6 h) hf (fun x7 M H locs hP hS bx7 hf => ?_)
        refine r_if_eq (tgt := 60) S dX6_odds_35 (by decide) hf (fun hf => ?_) (fun hf => ?_)
        · refine lv_iinc (v := (v2 + 1)) (lv' := [(6, .int (v2 + 1)), (7, .int x5), (0, .ref (ad o)), (1, .int p1), (2, .int p2), (3, .int p3), (4, .long v1)]) hx hb dX6_odds_60 hl (k := 6) rfl rfl (by decide) rfl (fun ls hl => ?_)
          refine lv_goto (tgt := 6) hx hb dX6_odds_63 (by decide) ?_
          exact ih3 v1 (v2 + 1) M H locs ls (lv_sub hl [2, 3, 4, 5, 6, 0] rfl) hP hS hf
        · refine lv_lload hx hb dX6_odds_38 (lv_at hl 5 rfl) ?_
          refine lv_iconst (v := 2) hx hb dX6_odds_40 (by decide) ?_
          refine lv_aload_n hx hb dX6_odds_41 rfl (lv_at hl 1 rfl) ?_
          refine lv_iload hx hb dX6_odds_42 (lv_at hl 0 rfl) ?_
          refine r_callV (As := [.int x5]) (rest := [.int 2, .long v1]) S hK hE hst hP hS h0 (by decide) rfl (cw_X6_135 ht ⟨Nat.le_of_ble_eq_true rfl, Nat.le_of_ble_eq_true rfl⟩) rfl hl.1 rfl (Nat.le_of_ble_eq_true rfl) dX6_odds_44 z2 (fun _ _ h => c_X6_spreadOf hG  h0 h) hf (fun x8 M H locs hP hS bx8 hf => ?_)
          refine lv_imul hx hb dX6_odds_47 ?_
          refine lv_iconst (v := 1) hx hb dX6_odds_48 (by decide) ?_
          refine lv_iadd hx hb dX6_odds_49 ?_
          refine lv_i2l (v := (Int32.toInt64 ((2 * x8) + 1))) hx hb dX6_odds_50 rfl ?_
          refine lv_lmul hx hb dX6_odds_51 ?_
          refine lv_ldc2 (v := 1000000000) hx hb hown (ht _ k_786) dX6_odds_52 ?_
          refine r_minl S k_787 k_788 k_74 k_789 hl.1 (Nat.le_of_ble_eq_true rfl) (Nat.le_of_ble_eq_true rfl) z2 dX6_odds_55 ?_
          refine r_vl hf (fun x9 hf => ?_)
          refine lv_lstore (lv' := [(4, .long x9), (7, .int x5), (0, .ref (ad o)), (1, .int p1), (2, .int p2), (3, .int p3), (6, .int v2)]) hx hb dX6_odds_58 hl (by decide) rfl (fun ls hl => ?_)
          refine lv_iinc (v := (v2 + 1)) (lv' := [(6, .int (v2 + 1)), (4, .long x9), (7, .int x5), (0, .ref (ad o)), (1, .int p1), (2, .int p2), (3, .int p3)]) hx hb dX6_odds_60 hl (k := 6) rfl rfl (by decide) rfl (fun ls hl => ?_)
          refine lv_goto (tgt := 6) hx hb dX6_odds_63 (by decide) ?_
          exact ih3 x9 (v2 + 1) M H locs ls (lv_sub hl [3, 4, 5, 6, 1, 0] rfl) hP hS hf
  exact L3 _ 1 1 M H locs ls (lv_sub hl [2, 3, 4, 5, 1, 0] rfl) hP hS hf
def f_X9_price (p0 : Int32) (p1 : Int32) (M : Mem) : Option (Int32 × Mem) :=
  bd (f_X9_isKind p0 M) fun x1 M =>
  if x1 = 0 then
    some (0, M)
  else
    if p0 = 7 then
      sl pricesF p0 8 fun x3 =>
      some ((x3 + (p1 / 100)), M)
    else
      sl pricesF p0 8 fun x2 =>
      some (x2, M)
def rm_X9_price : Room := { frames := 2, cells := 0, slots := 0, locals := 42 }
set_option maxHeartbeats 4000000 in
set_option maxRecDepth 100000 in
theorem c_X9_price {l : Launch} {D : va_G} {K : Ks} {ad : Nat → Nat} {A : Nat → Prop} {tC tA tP : Nat} {kK kV : Nat → Nat} (hG : Gok G1 ad A) {p0 : Int32} {p1 : Int32}  {M : Mem} {r : Int32} {M' : Mem} (hf : f_X9_price p0 p1 M = some (r, M')) : Ct l (E1 A tC tA tP kK kV) D K G1 ad A yX9_price (ws_of yX9_price cX9_price 2 (some .int)) rm_X9_price .int [.int p0, .int p1] M r M' := by
  have hst : Est A (E1 A tC tA tP kK kV) := est1
  refine Ct.ofW (by decide) (Nat.le_of_ble_eq_true rfl) ?_
  intro p e s m args below meth c Q H locs ls S hK hE hP hS hl hret
  have hx := S.1
  have hb := S.2.1
  have hown := S.2.2.2.1
  have ht := S.2.2.2.2
  have hl : lv_has ls 2 [(0, .int p0), (1, .int p1)] := hl
  unfold f_X9_price at hf
  refine lv_iload_n hx hb dX9_price_0 rfl (lv_at hl 0 rfl) ?_
  refine r_callS (As := [.int p0]) (rest := []) S hK hE hst hP hS (cw_X9_63 ht ⟨Nat.le_of_ble_eq_true rfl, Nat.le_of_ble_eq_true rfl⟩) rfl hl.1 rfl (Nat.le_of_ble_eq_true rfl) dX9_price_1 z2 (fun _ _ h => c_X9_isKind hG  h) hf (fun x1 M H locs hP hS bx1 hf => ?_)
  refine r_if_ne (tgt := 9) S dX9_price_4 (by decide) hf (fun hf => ?_) (fun hf => ?_)
  · refine lv_iload_n hx hb dX9_price_9 rfl (lv_at hl 0 rfl) ?_
    refine lv_bipush (v := 7) hx hb dX9_price_10 (by decide) ?_
    refine r_icmp_ne (tgt := 28) S dX9_price_12 (by decide) hf (fun hf => ?_) (fun hf => ?_)
    · refine va_gets hx hb hE.2.2.1.1 hS hown (ht _ k_500) (fun _ h => h) dX9_price_28 ?_
      refine lv_iload_n hx hb dX9_price_31 rfl (lv_at hl 0 rfl) ?_
      refine r_sl S hS hE.2.2.1.2 dX9_price_32 hf (fun x2 hf => ?_)
      exact hret _ _ _ _ _ _ dX9_price_33 hP hS rfl hf
    · refine va_gets hx hb hE.2.2.1.1 hS hown (ht _ k_500) (fun _ h => h) dX9_price_15 ?_
      refine lv_iload_n hx hb dX9_price_18 rfl (lv_at hl 0 rfl) ?_
      refine r_sl S hS hE.2.2.1.2 dX9_price_19 hf (fun x3 hf => ?_)
      refine lv_iload_n hx hb dX9_price_20 rfl (lv_at hl 1 rfl) ?_
      refine lv_bipush (v := 100) hx hb dX9_price_21 (by decide) ?_
      refine lv_idiv hx hb dX9_price_23 (by decide) ?_
      refine lv_iadd hx hb dX9_price_24 ?_
      refine lv_goto (tgt := 33) hx hb dX9_price_25 (by decide) ?_
      exact hret _ _ _ _ _ _ dX9_price_33 hP hS rfl hf
  · refine lv_iconst (v := 0) hx hb dX9_price_7 (by decide) ?_
    exact hret _ _ _ _ _ _ dX9_price_8 hP hS rfl hf
theorem cw_X6_172 {R : Room} {s : State} {args : Array Value} (ht : ∀ w ∈ Tw, w.before args s = true) {A : Nat → Prop} {tC tA tP : Nat} {kK kV : Nat → Nat} (hE : E1 A tC tA tP kK kV s) (hR : rm_X9_price.frames + 1 ≤ R.frames ∧ 8 + (2 + 11) + rm_X9_price.locals ≤ R.locals) : va_CN R s args RX6 172 yX9_price "TwinTables" cX9_price 2 (some .int) (ws_of yX9_price cX9_price 2 (some .int)) rm_X9_price 0 0 2 ∧ (Cond.static yX9_price).before args s = true ∧ True := cw_SN 2 ht hE.2.2.2.2.2.1 k_498 k_63 k_499 (by decide +kernel) rfl rfl hR
def f_X6_cheapestKind (o : Nat) (p1 : Int32) (M : Mem) : Option (Int32 × Mem) :=
  it2 (fun rc3 (v1 : Int32) (v2 : Int32) M =>
    if v2 < 1 then
      some (v1, M)
    else
      vv (grf G1 o 0) fun x4 =>
      vv (grf G1 x4 6) fun x5 =>
      ld M x5 p1 40 fun x6 =>
      bd (f_X6_fits o p1 v2 M) fun x7 M =>
      if x7 = 0 then
        rc3 v1 (v2 + (-1)) M
      else
        bd (f_X9_price v2 x6 M) fun x8 M =>
        bd (f_X9_price v1 x6 M) fun x9 M =>
        if x9 < x8 then
          rc3 v1 (v2 + (-1)) M
        else
          rc3 v2 (v2 + (-1)) M
  ) fuel 6 7 M
def rm_X6_cheapestKind : Room := { frames := 5, cells := 0, slots := 0, locals := 122 }
set_option maxHeartbeats 4000000 in
set_option maxRecDepth 100000 in
theorem c_X6_cheapestKind {l : Launch} {D : va_G} {K : Ks} {ad : Nat → Nat} {A : Nat → Prop} {tC tA tP : Nat} {kK kV : Nat → Nat} (hG : Gok G1 ad A) {o : Nat} {p1 : Int32} (h0 : gcl G1 o = 6) {M : Mem} {r : Int32} {M' : Mem} (hf : f_X6_cheapestKind o p1 M = some (r, M')) : Ct l (E1 A tC tA tP kK kV) D K G1 ad A yX6_cheapestKind (ws_of yX6_cheapestKind cX6_cheapestKind 5 (some .int)) rm_X6_cheapestKind .int [.ref (ad o), .int p1] M r M' := by
  have hst : Est A (E1 A tC tA tP kK kV) := est1
  refine Ct.ofW (by decide) (Nat.le_of_ble_eq_true rfl) ?_
  intro p e s m args below meth c Q H locs ls S hK hE hP hS hl hret
  have hx := S.1
  have hb := S.2.1
  have hown := S.2.2.2.1
  have ht := S.2.2.2.2
  have hl : lv_has ls 5 [(0, .ref (ad o)), (1, .int p1)] := hl
  unfold f_X6_cheapestKind at hf
  refine lv_bipush (v := 6) hx hb dX6_cheapestKind_0 (by decide) ?_
  refine lv_istore_n (lv' := [(2, .int 6), (0, .ref (ad o)), (1, .int p1)]) hx hb dX6_cheapestKind_2 rfl hl (by decide) rfl (fun ls hl => ?_)
  refine lv_bipush (v := 7) hx hb dX6_cheapestKind_3 (by decide) ?_
  refine lv_istore_n (lv' := [(3, .int 7), (2, .int 6), (0, .ref (ad o)), (1, .int p1)]) hx hb dX6_cheapestKind_5 rfl hl (by decide) rfl (fun ls hl => ?_)
  obtain ⟨F3, hF3, hf⟩ := it2_g hf
  have L3 : ∀ (n : Nat) (v1 : Int32) (v2 : Int32) (M : Mem) (H : Heap) (locs : List Loc) (ls : Array Slot), lv_has ls 5 [(0, .ref (ad o)), (1, .int p1), (2, .int v1), (3, .int v2)] → va_P D classes (gws K G1 ad M) H → va_S A s.heap H locs → it2 F3 n v1 v2 M = some (r, M') → W p l e rm_X6_cheapestKind s m args below meth c H locs 0 0 Q (F0 m 6 ls []) := by
    intro n
    induction n with
    | zero => intro v1 v2 M H locs ls hl hP hS hf; exact nomatch hf
    | succ n ih3 =>
      intro v1 v2 M H locs ls hl hP hS hf
      obtain ⟨rc3, hrc3, hf⟩ := it2_w hf
      rw [← hrc3] at ih3
      rw [hF3] at hf
      refine lv_iload_n hx hb dX6_cheapestKind_6 rfl (lv_at hl 3 rfl) ?_
      refine lv_iconst (v := 1) hx hb dX6_cheapestKind_7 (by decide) ?_
      refine r_icmp_lt (tgt := 54) S dX6_cheapestKind_8 (by decide) hf (fun hf => ?_) (fun hf => ?_)
      · refine lv_iload_n hx hb dX6_cheapestKind_54 rfl (lv_at hl 2 rfl) ?_
        exact hret _ _ _ _ _ _ dX6_cheapestKind_55 hP hS rfl hf
      · refine lv_aload_n hx hb dX6_cheapestKind_11 rfl (lv_at hl 0 rfl) ?_
        refine gf_X6_12 S hK hP h0 dX6_cheapestKind_12 hf (fun x4 hx4 hf => ?_)
        refine gf_X6_98 S hK hP hx4 dX6_cheapestKind_15 hf (fun x5 hx5 hf => ?_)
        refine lv_iload_n hx hb dX6_cheapestKind_18 rfl (lv_at hl 1 rfl) ?_
        refine r_iald S hK hP hx5 dX6_cheapestKind_19 hf (fun x6 hf => ?_)
        refine lv_istore (lv' := [(4, .int x6), (0, .ref (ad o)), (1, .int p1), (2, .int v1), (3, .int v2)]) hx hb dX6_cheapestKind_20 hl (by decide) rfl (fun ls hl => ?_)
        refine lv_aload_n hx hb dX6_cheapestKind_22 rfl (lv_at hl 1 rfl) ?_
        refine lv_iload_n hx hb dX6_cheapestKind_23 rfl (lv_at hl 2 rfl) ?_
        refine lv_iload_n hx hb dX6_cheapestKind_24 rfl (lv_at hl 4 rfl) ?_
        refine r_callV (As := [.int p1, .int v2]) (rest := []) S hK hE hst hP hS h0 (by decide) rfl (cw_X6_154 ht ⟨Nat.le_of_ble_eq_true rfl, Nat.le_of_ble_eq_true rfl⟩) rfl hl.1 rfl (Nat.le_of_ble_eq_true rfl) dX6_cheapestKind_25 z2 (fun _ _ h => c_X6_fits hG  h0 h) hf (fun x7 M H locs hP hS bx7 hf => ?_)
        refine r_if_eq (tgt := 48) S dX6_cheapestKind_28 (by decide) hf (fun hf => ?_) (fun hf => ?_)
        · refine lv_iinc (v := (v2 + (-1))) (lv' := [(3, .int (v2 + (-1))), (4, .int x6), (0, .ref (ad o)), (1, .int p1), (2, .int v1)]) hx hb dX6_cheapestKind_48 hl (k := 4) rfl rfl (by decide) rfl (fun ls hl => ?_)
          refine lv_goto (tgt := 6) hx hb dX6_cheapestKind_51 (by decide) ?_
          exact ih3 v1 (v2 + (-1)) M H locs ls (lv_sub hl [2, 3, 4, 0] rfl) hP hS hf
        · refine lv_iload_n hx hb dX6_cheapestKind_31 rfl (lv_at hl 4 rfl) ?_
          refine lv_iload hx hb dX6_cheapestKind_32 (lv_at hl 0 rfl) ?_
          refine r_callSN (As := [.int v2, .int x6]) (rest := []) S hK hE hst hP hS (cw_X6_172 ht hE ⟨Nat.le_of_ble_eq_true rfl, Nat.le_of_ble_eq_true rfl⟩) rfl hl.1 rfl (Nat.le_of_ble_eq_true rfl) dX6_cheapestKind_34 z2 (fun _ _ h => c_X9_price hG  h) hf (fun x8 M H locs hP hS bx8 hf => ?_)
          refine lv_iload_n hx hb dX6_cheapestKind_37 rfl (lv_at hl 3 rfl) ?_
          refine lv_iload hx hb dX6_cheapestKind_38 (lv_at hl 0 rfl) ?_
          refine r_callSN (As := [.int v1, .int x6]) (rest := [.int x8]) S hK hE hst hP hS (cw_X6_172 ht hE ⟨Nat.le_of_ble_eq_true rfl, Nat.le_of_ble_eq_true rfl⟩) rfl hl.1 rfl (Nat.le_of_ble_eq_true rfl) dX6_cheapestKind_40 z2 (fun _ _ h => c_X9_price hG  h) hf (fun x9 M H locs hP hS bx9 hf => ?_)
          refine r_icmp_gt (tgt := 48) S dX6_cheapestKind_43 (by decide) hf (fun hf => ?_) (fun hf => ?_)
          · refine lv_iinc (v := (v2 + (-1))) (lv' := [(3, .int (v2 + (-1))), (4, .int x6), (0, .ref (ad o)), (1, .int p1), (2, .int v1)]) hx hb dX6_cheapestKind_48 hl (k := 4) rfl rfl (by decide) rfl (fun ls hl => ?_)
            refine lv_goto (tgt := 6) hx hb dX6_cheapestKind_51 (by decide) ?_
            exact ih3 v1 (v2 + (-1)) M H locs ls (lv_sub hl [2, 3, 4, 0] rfl) hP hS hf
          · refine lv_iload_n hx hb dX6_cheapestKind_46 rfl (lv_at hl 4 rfl) ?_
            refine lv_istore_n (lv' := [(2, .int v2), (4, .int x6), (0, .ref (ad o)), (1, .int p1), (3, .int v2)]) hx hb dX6_cheapestKind_47 rfl hl (by decide) rfl (fun ls hl => ?_)
            refine lv_iinc (v := (v2 + (-1))) (lv' := [(3, .int (v2 + (-1))), (2, .int v2), (4, .int x6), (0, .ref (ad o)), (1, .int p1)]) hx hb dX6_cheapestKind_48 hl (k := 4) rfl rfl (by decide) rfl (fun ls hl => ?_)
            refine lv_goto (tgt := 6) hx hb dX6_cheapestKind_51 (by decide) ?_
            exact ih3 v2 (v2 + (-1)) M H locs ls (lv_sub hl [3, 4, 1, 0] rfl) hP hS hf
  exact L3 _ 6 7 M H locs ls (lv_sub hl [2, 3, 1, 0] rfl) hP hS hf
def f_X6_draw (o : Nat) (M : Mem) : Option (Int32 × Mem) :=
  vv (M o 8) fun x1 =>
  mm (up M o 8 ((x1 * 1103515245) + 12345)) fun M =>
  vv (M o 8) fun x2 =>
  some ((js x2 8), M)
def rm_X6_draw : Room := { frames := 0, cells := 0, slots := 0, locals := 0 }
set_option maxHeartbeats 4000000 in
set_option maxRecDepth 100000 in
theorem c_X6_draw {l : Launch} {D : va_G} {K : Ks} {ad : Nat → Nat} {A : Nat → Prop} {tC tA tP : Nat} {kK kV : Nat → Nat} (hG : Gok G1 ad A) {o : Nat} (h0 : gcl G1 o = 6) {M : Mem} {r : Int32} {M' : Mem} (hf : f_X6_draw o M = some (r, M')) : Ct l (E1 A tC tA tP kK kV) D K G1 ad A yX6_draw (ws_of yX6_draw cX6_draw 1 (some .int)) rm_X6_draw .int [.ref (ad o)] M r M' := by
  have hst : Est A (E1 A tC tA tP kK kV) := est1
  refine Ct.ofW (by decide) (Nat.le_of_ble_eq_true rfl) ?_
  intro p e s m args below meth c Q H locs ls S hK hE hP hS hl hret
  have hx := S.1
  have hb := S.2.1
  have hown := S.2.2.2.1
  have ht := S.2.2.2.2
  have hl : lv_has ls 1 [(0, .ref (ad o))] := hl
  unfold f_X6_draw at hf
  refine lv_aload_n hx hb dX6_draw_0 rfl (lv_at hl 0 rfl) ?_
  refine lv_aload_n hx hb dX6_draw_1 rfl (lv_at hl 0 rfl) ?_
  refine gf_X6_54 S hK hP h0 dX6_draw_2 hf (fun x1 hf => ?_)
  refine lv_ldc (v := 1103515245) hx hb hown (ht _ k_971) dX6_draw_5 ?_
  refine lv_imul hx hb dX6_draw_7 ?_
  refine lv_sipush (v := 12345) hx hb dX6_draw_8 (by decide) ?_
  refine lv_iadd hx hb dX6_draw_11 ?_
  refine pf_X6_54 S hK hG hP hS h0 dX6_draw_12 hf (fun M H locs hP hS hf => ?_)
  refine lv_aload_n hx hb dX6_draw_15 rfl (lv_at hl 0 rfl) ?_
  refine gf_X6_54 S hK hP h0 dX6_draw_16 hf (fun x2 hf => ?_)
  refine lv_bipush (v := 8) hx hb dX6_draw_19 (by decide) ?_
  refine lv_iushr (v := (js x2 8)) hx hb dX6_draw_21 rfl ?_
  exact hret _ _ _ _ _ _ dX6_draw_22 hP hS rfl hf
theorem cw_X6_179 {R : Room} {s : State} {args : Array Value} (ht : ∀ w ∈ Tw, w.before args s = true) (hR : rm_X6_draw.frames + 1 ≤ R.frames ∧ 8 + (1 + 11) + rm_X6_draw.locals ≤ R.locals) : CallW R s args RX6 RX6 179 yX6_draw cX6_draw 1 (some .int) (ws_of yX6_draw cX6_draw 1 (some .int)) rm_X6_draw 0 0 0 := cw_V 0 ht k_967 k_969 k_18 k_64 k_970 (by decide +kernel) rfl rfl hR
def f_X6_drawLand (o : Nat) (p1 : Int32) (p2 : Int32) (M : Mem) : Option (Int32 × Mem) :=
  bd (f_X6_spreadFor o p2 0 M) fun x1 M =>
  vv (if ((2 * x1) + 1) < 1 then 1 else ((2 * x1) + 1)) fun x2 =>
  it1 (fun rc4 (v3 : Int32) M =>
    if v3 < p1 then
      if v3 < 12 then
        vv (grf G1 o 9) fun x5 =>
        vv (M o 7) fun x6 =>
        bd (f_X6_draw o M) fun x7 M =>
        dv x2 <|
        bd (f_X9_holdWithin ((x6 - x1) + (jr x7 x2)) 0 9999 M) fun x8 M =>
        st M x5 v3 12 x8 fun M =>
        rc4 (v3 + 1) M
      else
        some (0, M)
    else
      some (0, M)
  ) fuel 0 M
def rm_X6_drawLand : Room := { frames := 3, cells := 0, slots := 0, locals := 72 }
set_option maxHeartbeats 4000000 in
set_option maxRecDepth 100000 in
theorem c_X6_drawLand {l : Launch} {D : va_G} {K : Ks} {ad : Nat → Nat} {A : Nat → Prop} {tC tA tP : Nat} {kK kV : Nat → Nat} (hG : Gok G1 ad A) {o : Nat} {p1 : Int32} {p2 : Int32} (h0 : gcl G1 o = 6) {M : Mem} {r : Int32} {M' : Mem} (hf : f_X6_drawLand o p1 p2 M = some (r, M')) : Cv l (E1 A tC tA tP kK kV) D K G1 ad A yX6_drawLand (ws_of yX6_drawLand cX6_drawLand 6 none) rm_X6_drawLand [.ref (ad o), .int p1, .int p2] M M' := by
  have hst : Est A (E1 A tC tA tP kK kV) := est1
  refine Cv.ofW (r := r) (by decide) (Nat.le_of_ble_eq_true rfl) ?_
  intro p e s m args below meth c Q H locs ls S hK hE hP hS hl hret
  have hx := S.1
  have hb := S.2.1
  have hown := S.2.2.2.1
  have ht := S.2.2.2.2
  have hl : lv_has ls 6 [(0, .ref (ad o)), (1, .int p1), (2, .int p2)] := hl
  unfold f_X6_drawLand at hf
  refine lv_aload_n hx hb dX6_drawLand_0 rfl (lv_at hl 0 rfl) ?_
  refine lv_iload_n hx hb dX6_drawLand_1 rfl (lv_at hl 2 rfl) ?_
  refine lv_iconst (v := 0) hx hb dX6_drawLand_2 (by decide) ?_
  refine r_callV (As := [.int p2, .int 0]) (rest := []) S hK hE hst hP hS h0 (by decide) rfl (cw_X6_105 ht ⟨Nat.le_of_ble_eq_true rfl, Nat.le_of_ble_eq_true rfl⟩) rfl hl.1 rfl (Nat.le_of_ble_eq_true rfl) dX6_drawLand_3 z2 (fun _ _ h => c_X6_spreadFor hG  h0 h) hf (fun x1 M H locs hP hS bx1 hf => ?_)
  refine lv_istore_n (lv' := [(3, .int x1), (0, .ref (ad o)), (1, .int p1), (2, .int p2)]) hx hb dX6_drawLand_6 rfl hl (by decide) rfl (fun ls hl => ?_)
  refine lv_iconst (v := 2) hx hb dX6_drawLand_7 (by decide) ?_
  refine lv_iload_n hx hb dX6_drawLand_8 rfl (lv_at hl 0 rfl) ?_
  refine lv_imul hx hb dX6_drawLand_9 ?_
  refine lv_iconst (v := 1) hx hb dX6_drawLand_10 (by decide) ?_
  refine lv_iadd hx hb dX6_drawLand_11 ?_
  refine lv_iconst (v := 1) hx hb dX6_drawLand_12 (by decide) ?_
  refine r_max S k_966 k_676 k_74 k_677 hl.1 (Nat.le_of_ble_eq_true rfl) (Nat.le_of_ble_eq_true rfl) z2 dX6_drawLand_13 ?_
  refine r_vi hf (fun x2 hf => ?_)
  refine lv_istore (lv' := [(4, .int x2), (3, .int x1), (0, .ref (ad o)), (1, .int p1), (2, .int p2)]) hx hb dX6_drawLand_16 hl (by decide) rfl (fun ls hl => ?_)
  refine lv_iconst (v := 0) hx hb dX6_drawLand_18 (by decide) ?_
  refine lv_istore (lv' := [(5, .int 0), (4, .int x2), (3, .int x1), (0, .ref (ad o)), (1, .int p1), (2, .int p2)]) hx hb dX6_drawLand_19 hl (by decide) rfl (fun ls hl => ?_)
  obtain ⟨F4, hF4, hf⟩ := it1_g hf
  have L4 : ∀ (n : Nat) (v3 : Int32) (M : Mem) (H : Heap) (locs : List Loc) (ls : Array Slot), lv_has ls 6 [(0, .ref (ad o)), (1, .int p1), (3, .int x1), (4, .int x2), (5, .int v3)] → va_P D classes (gws K G1 ad M) H → va_S A s.heap H locs → it1 F4 n v3 M = some (r, M') → W p l e rm_X6_drawLand s m args below meth c H locs 0 0 Q (F0 m 21 ls []) := by
    intro n
    induction n with
    | zero => intro v3 M H locs ls hl hP hS hf; exact nomatch hf
    | succ n ih4 =>
      intro v3 M H locs ls hl hP hS hf
      obtain ⟨rc4, hrc4, hf⟩ := it1_w hf
      rw [← hrc4] at ih4
      rw [hF4] at hf
      refine lv_iload hx hb dX6_drawLand_21 (lv_at hl 4 rfl) ?_
      refine lv_iload_n hx hb dX6_drawLand_23 rfl (lv_at hl 1 rfl) ?_
      refine r_icmp_ge (tgt := 68) S dX6_drawLand_24 (by decide) hf (fun hf => ?_) (fun hf => ?_)
      · exact hret _ _ _ _ _ _ dX6_drawLand_68 hP hS hf
      · refine lv_iload hx hb dX6_drawLand_27 (lv_at hl 4 rfl) ?_
        refine lv_bipush (v := 12) hx hb dX6_drawLand_29 (by decide) ?_
        refine r_icmp_ge (tgt := 68) S dX6_drawLand_31 (by decide) hf (fun hf => ?_) (fun hf => ?_)
        · exact hret _ _ _ _ _ _ dX6_drawLand_68 hP hS hf
        · refine lv_aload_n hx hb dX6_drawLand_34 rfl (lv_at hl 0 rfl) ?_
          refine gf_X6_57 S hK hP h0 dX6_drawLand_35 hf (fun x5 hx5 hf => ?_)
          refine lv_iload hx hb dX6_drawLand_38 (lv_at hl 4 rfl) ?_
          refine lv_aload_n hx hb dX6_drawLand_40 rfl (lv_at hl 0 rfl) ?_
          refine gf_X6_50 S hK hP h0 dX6_drawLand_41 hf (fun x6 hf => ?_)
          refine lv_iload_n hx hb dX6_drawLand_44 rfl (lv_at hl 2 rfl) ?_
          refine lv_isub hx hb dX6_drawLand_45 ?_
          refine lv_aload_n hx hb dX6_drawLand_46 rfl (lv_at hl 0 rfl) ?_
          refine r_callV (As := []) (rest := [.int (x6 - x1), .int v3, .ref (ad x5)]) S hK hE hst hP hS h0 (by decide) rfl (cw_X6_179 ht ⟨Nat.le_of_ble_eq_true rfl, Nat.le_of_ble_eq_true rfl⟩) rfl hl.1 rfl (Nat.le_of_ble_eq_true rfl) dX6_drawLand_47 z2 (fun _ _ h => c_X6_draw hG  h0 h) hf (fun x7 M H locs hP hS bx7 hf => ?_)
          refine lv_iload hx hb dX6_drawLand_50 (lv_at hl 3 rfl) ?_
          refine r_irem S dX6_drawLand_52 hf (fun hf => ?_)
          refine lv_iadd hx hb dX6_drawLand_53 ?_
          refine lv_iconst (v := 0) hx hb dX6_drawLand_54 (by decide) ?_
          refine lv_sipush (v := 9999) hx hb dX6_drawLand_55 (by decide) ?_
          refine r_callSN (As := [.int ((x6 - x1) + (jr x7 x2)), .int 0, .int 9999]) (rest := [.int v3, .ref (ad x5)]) S hK hE hst hP hS (cw_X6_94 ht hE ⟨Nat.le_of_ble_eq_true rfl, Nat.le_of_ble_eq_true rfl⟩) rfl hl.1 rfl (Nat.le_of_ble_eq_true rfl) dX6_drawLand_58 z2 (fun _ _ h => c_X9_holdWithin hG  h) hf (fun x8 M H locs hP hS bx8 hf => ?_)
          refine r_iast S hK hG hP hS hx5 dX6_drawLand_61 hf (fun M H locs hP hS hf => ?_)
          refine lv_iinc (v := (v3 + 1)) (lv' := [(5, .int (v3 + 1)), (0, .ref (ad o)), (1, .int p1), (3, .int x1), (4, .int x2)]) hx hb dX6_drawLand_62 hl (k := 4) rfl rfl (by decide) rfl (fun ls hl => ?_)
          refine lv_goto (tgt := 21) hx hb dX6_drawLand_65 (by decide) ?_
          exact ih4 (v3 + 1) M H locs ls (lv_sub hl [1, 2, 3, 4, 0] rfl) hP hS hf
  exact L4 _ 0 M H locs ls (lv_sub hl [3, 4, 2, 1, 0] rfl) hP hS hf
section
variable {p : Program} {l : Launch} {e : Env} {R : Room} {s : State} {m : MethodId} {args : Array Value} {below : List Frame} {meth : Method} {c : Code} {H : Heap} {locs : List Loc} {cells slots : Nat} {Q : State → Prop} {cc : ByteArray} {pc : Nat} {ls : Array Slot} {rest : List Value} {nL : Nat} {D : va_G} {K : Ks} {ad : Nat → Nat} {A : Nat → Prop} {M : Mem} {β : Type} {z : β}
theorem gf_X7_19 (S : CallFix p m c cc nL s args Tw RX7) (hK : va_K D classes (gty K) s) (hP : va_P D classes (gws K G1 ad M) H) {a : Nat} {kk : Int32 → Option β} (ha : gcl G1 a = 7) (hdg : decode cc pc = .ok (.getfield 19, 3)) (hf : vv (M a 1) kk = some z) (w : ∀ x, kk x = some z → W p l e R s m args below meth c H locs cells slots Q (F0 m (pc + 3) ls (.int x :: rest))) : W p l e R s m args below meth c H locs cells slots Q (F0 m pc ls (.ref (ad a) :: rest)) := r_geti S hK hP (T := TX7) inX7 rfl (by decide) (by decide) ha (sf_X7_1 ha) k_284 hdg hf w
end
section
variable {p : Program} {l : Launch} {e : Env} {R : Room} {s : State} {m : MethodId} {args : Array Value} {below : List Frame} {meth : Method} {c : Code} {H : Heap} {locs : List Loc} {cells slots : Nat} {Q : State → Prop} {cc : ByteArray} {pc : Nat} {ls : Array Slot} {rest : List Value} {nL : Nat} {D : va_G} {K : Ks} {ad : Nat → Nat} {A : Nat → Prop} {M : Mem} {β : Type} {z : β}
theorem gf_X7_9 (S : CallFix p m c cc nL s args Tw RX7) (hK : va_K D classes (gty K) s) (hP : va_P D classes (gws K G1 ad M) H) {a : Nat} {kk : Nat → Option β} (ha : gcl G1 a = 7) (hdg : decode cc pc = .ok (.getfield 9, 3)) (hf : vv (grf G1 a 0) kk = some z) (w : ∀ b, gcl G1 b = 21 ∧ gsz G1 b = 96 → kk b = some z → W p l e R s m args below meth c H locs cells slots Q (F0 m (pc + 3) ls (.ref (ad b) :: rest))) : W p l e R s m args below meth c H locs cells slots Q (F0 m pc ls (.ref (ad a) :: rest)) := r_getr S hK hP (T := TX7) inX7 rfl (by decide) (by decide) ha (sf_X7_0 ha).1 k_283 hdg hf (fun b e => w b (by rw [e]; exact (sf_X7_0 ha).2))
end
section
variable {p : Program} {l : Launch} {e : Env} {R : Room} {s : State} {m : MethodId} {args : Array Value} {below : List Frame} {meth : Method} {c : Code} {H : Heap} {locs : List Loc} {cells slots : Nat} {Q : State → Prop} {cc : ByteArray} {pc : Nat} {ls : Array Slot} {rest : List Value} {nL : Nat} {D : va_G} {K : Ks} {ad : Nat → Nat} {A : Nat → Prop} {M : Mem} {β : Type} {z : β}
theorem pf_X7_19 (S : CallFix p m c cc nL s args Tw RX7) (hK : va_K D classes (gty K) s) (hG : Gok G1 ad A) (hP : va_P D classes (gws K G1 ad M) H) (hS : va_S A s.heap H locs) {a : Nat} {v : Int32} {kk : Mem → Option β} (ha : gcl G1 a = 7) (hdg : decode cc pc = .ok (.putfield 19, 3)) (hf : mm (up M a 1 v) kk = some z) (w : ∀ M H locs, va_P D classes (gws K G1 ad M) H → va_S A s.heap H locs → kk M = some z → W p l e R s m args below meth c H locs cells slots Q (F0 m (pc + 3) ls rest)) : W p l e R s m args below meth c H locs cells slots Q (F0 m pc ls (.int v :: .ref (ad a) :: rest)) := r_putt S hK hG hP hS (k := 1) (T := TX7) inX7 rfl (by decide) tyX7 tyX7_ok nmX7 (by decide) rfl rfl rfl ha (sf_X7_1 ha) k_284 hdg hf w
end
def f_X7_add (o : Nat) (p1 : Int32) (M : Mem) : Option (Int32 × Mem) :=
  it1 (fun rc2 (v1 : Int32) M =>
    if v1 < 0 then
      some (0, M)
    else
      vv (M o 1) fun x3 =>
      if x3 < 96 then
        vv (grf G1 o 0) fun x4 =>
        vv (M o 1) fun x5 =>
        st M x4 x5 96 (Int8.toInt32 (Int32.toInt8 (Int8.toInt32 (Int32.toInt8 (js p1 v1))))) fun M =>
        vv (M o 1) fun x6 =>
        mm (up M o 1 (x6 + 1)) fun M =>
        rc2 (v1 + (-8)) M
      else
        some (0, M)
  ) fuel 24 M
def rm_X7_add : Room := { frames := 0, cells := 0, slots := 0, locals := 0 }
set_option maxHeartbeats 4000000 in
set_option maxRecDepth 100000 in
theorem c_X7_add {l : Launch} {D : va_G} {K : Ks} {ad : Nat → Nat} {A : Nat → Prop} {tC tA tP : Nat} {kK kV : Nat → Nat} (hG : Gok G1 ad A) {o : Nat} {p1 : Int32} (h0 : gcl G1 o = 7) {M : Mem} {r : Int32} {M' : Mem} (hf : f_X7_add o p1 M = some (r, M')) : Cv l (E1 A tC tA tP kK kV) D K G1 ad A yX7_add (ws_of yX7_add cX7_add 3 none) rm_X7_add [.ref (ad o), .int p1] M M' := by
  have hst : Est A (E1 A tC tA tP kK kV) := est1
  refine Cv.ofW (r := r) (by decide) (Nat.le_of_ble_eq_true rfl) ?_
  intro p e s m args below meth c Q H locs ls S hK hE hP hS hl hret
  have hx := S.1
  have hb := S.2.1
  have hown := S.2.2.2.1
  have ht := S.2.2.2.2
  have hl : lv_has ls 3 [(0, .ref (ad o)), (1, .int p1)] := hl
  unfold f_X7_add at hf
  refine lv_bipush (v := 24) hx hb dX7_add_0 (by decide) ?_
  refine lv_istore_n (lv' := [(2, .int 24), (0, .ref (ad o)), (1, .int p1)]) hx hb dX7_add_2 rfl hl (by decide) rfl (fun ls hl => ?_)
  obtain ⟨F2, hF2, hf⟩ := it1_g hf
  have L2 : ∀ (n : Nat) (v1 : Int32) (M : Mem) (H : Heap) (locs : List Loc) (ls : Array Slot), lv_has ls 3 [(0, .ref (ad o)), (1, .int p1), (2, .int v1)] → va_P D classes (gws K G1 ad M) H → va_S A s.heap H locs → it1 F2 n v1 M = some (r, M') → W p l e rm_X7_add s m args below meth c H locs 0 0 Q (F0 m 3 ls []) := by
    intro n
    induction n with
    | zero => intro v1 M H locs ls hl hP hS hf; exact nomatch hf
    | succ n ih2 =>
      intro v1 M H locs ls hl hP hS hf
      obtain ⟨rc2, hrc2, hf⟩ := it1_w hf
      rw [← hrc2] at ih2
      rw [hF2] at hf
      refine lv_iload_n hx hb dX7_add_3 rfl (lv_at hl 2 rfl) ?_
      refine r_if_lt (tgt := 45) S dX7_add_4 (by decide) hf (fun hf => ?_) (fun hf => ?_)
      · exact hret _ _ _ _ _ _ dX7_add_45 hP hS hf
      · refine lv_aload_n hx hb dX7_add_7 rfl (lv_at hl 0 rfl) ?_
        refine gf_X7_19 S hK hP h0 dX7_add_8 hf (fun x3 hf => ?_)
        refine lv_bipush (v := 96) hx hb dX7_add_11 (by decide) ?_
        refine r_icmp_ge (tgt := 45) S dX7_add_13 (by decide) hf (fun hf => ?_) (fun hf => ?_)
        · exact hret _ _ _ _ _ _ dX7_add_45 hP hS hf
        · refine lv_aload_n hx hb dX7_add_16 rfl (lv_at hl 0 rfl) ?_
          refine gf_X7_9 S hK hP h0 dX7_add_17 hf (fun x4 hx4 hf => ?_)
          refine lv_aload_n hx hb dX7_add_20 rfl (lv_at hl 0 rfl) ?_
          refine gf_X7_19 S hK hP h0 dX7_add_21 hf (fun x5 hf => ?_)
          refine lv_iload_n hx hb dX7_add_24 rfl (lv_at hl 1 rfl) ?_
          refine lv_iload_n hx hb dX7_add_25 rfl (lv_at hl 2 rfl) ?_
          refine lv_iushr (v := (js p1 v1)) hx hb dX7_add_26 rfl ?_
          refine lv_i2b (v := (Int8.toInt32 (Int32.toInt8 (js p1 v1)))) hx hb dX7_add_27 rfl ?_
          refine r_bast S hK hG hP hS hx4 dX7_add_28 hf (fun M H locs hP hS hf => ?_)
          refine lv_aload_n hx hb dX7_add_29 rfl (lv_at hl 0 rfl) ?_
          refine lv_dup hx hb dX7_add_30 rfl ?_
          refine gf_X7_19 S hK hP h0 dX7_add_31 hf (fun x6 hf => ?_)
          refine lv_iconst (v := 1) hx hb dX7_add_34 (by decide) ?_
          refine lv_iadd hx hb dX7_add_35 ?_
          refine pf_X7_19 S hK hG hP hS h0 dX7_add_36 hf (fun M H locs hP hS hf => ?_)
          refine lv_iinc (v := (v1 + (-8))) (lv' := [(2, .int (v1 + (-8))), (0, .ref (ad o)), (1, .int p1)]) hx hb dX7_add_39 hl (k := 2) rfl rfl (by decide) rfl (fun ls hl => ?_)
          refine lv_goto (tgt := 3) hx hb dX7_add_42 (by decide) ?_
          exact ih2 (v1 + (-8)) M H locs ls (lv_sub hl [1, 2, 0] rfl) hP hS hf
  exact L2 _ 24 M H locs ls (lv_sub hl [1, 2, 0] rfl) hP hS hf
def f_X7_sortAt (o : Nat) (p1 : Int32) (M : Mem) : Option (Int32 × Mem) :=
  if p1 < 0 then
    some (0, M)
  else
    vv (M o 1) fun x1 =>
    if p1 < x1 then
      vv (grf G1 o 0) fun x2 =>
      ld M x2 p1 96 fun x3 =>
      jn (fun (M : Mem) =>
        if x3 < 48 then
          some (3, M)
        else
          if 57 < x3 then
            some (3, M)
          else
            some (2, M)
      ) fun k4 =>
      if x3 < 97 then
        k4 M
      else
        if 122 < x3 then
          k4 M
        else
          some (1, M)
    else
      some (0, M)
def rm_X7_sortAt : Room := { frames := 0, cells := 0, slots := 0, locals := 0 }
set_option maxHeartbeats 4000000 in
set_option maxRecDepth 100000 in
theorem c_X7_sortAt {l : Launch} {D : va_G} {K : Ks} {ad : Nat → Nat} {A : Nat → Prop} {tC tA tP : Nat} {kK kV : Nat → Nat} (hG : Gok G1 ad A) {o : Nat} {p1 : Int32} (h0 : gcl G1 o = 7) {M : Mem} {r : Int32} {M' : Mem} (hf : f_X7_sortAt o p1 M = some (r, M')) : Ct l (E1 A tC tA tP kK kV) D K G1 ad A yX7_sortAt (ws_of yX7_sortAt cX7_sortAt 3 (some .int)) rm_X7_sortAt .int [.ref (ad o), .int p1] M r M' := by
  have hst : Est A (E1 A tC tA tP kK kV) := est1
  refine Ct.ofW (by decide) (Nat.le_of_ble_eq_true rfl) ?_
  intro p e s m args below meth c Q H locs ls S hK hE hP hS hl hret
  have hx := S.1
  have hb := S.2.1
  have hown := S.2.2.2.1
  have ht := S.2.2.2.2
  have hl : lv_has ls 3 [(0, .ref (ad o)), (1, .int p1)] := hl
  unfold f_X7_sortAt at hf
  refine lv_iload_n hx hb dX7_sortAt_0 rfl (lv_at hl 1 rfl) ?_
  refine r_if_lt (tgt := 12) S dX7_sortAt_1 (by decide) hf (fun hf => ?_) (fun hf => ?_)
  · refine lv_iconst (v := 0) hx hb dX7_sortAt_12 (by decide) ?_
    exact hret _ _ _ _ _ _ dX7_sortAt_13 hP hS rfl hf
  · refine lv_iload_n hx hb dX7_sortAt_4 rfl (lv_at hl 1 rfl) ?_
    refine lv_aload_n hx hb dX7_sortAt_5 rfl (lv_at hl 0 rfl) ?_
    refine gf_X7_19 S hK hP h0 dX7_sortAt_6 hf (fun x1 hf => ?_)
    refine r_icmp_lt (tgt := 14) S dX7_sortAt_9 (by decide) hf (fun hf => ?_) (fun hf => ?_)
    · refine lv_aload_n hx hb dX7_sortAt_14 rfl (lv_at hl 0 rfl) ?_
      refine gf_X7_9 S hK hP h0 dX7_sortAt_15 hf (fun x2 hx2 hf => ?_)
      refine lv_iload_n hx hb dX7_sortAt_18 rfl (lv_at hl 1 rfl) ?_
      refine r_bald S hK hP hx2 dX7_sortAt_19 hf (fun x3 hf => ?_)
      refine lv_istore_n (lv' := [(2, .int x3), (0, .ref (ad o)), (1, .int p1)]) hx hb dX7_sortAt_20 rfl hl (by decide) rfl (fun ls hl => ?_)
      refine lv_iload_n hx hb dX7_sortAt_21 rfl (lv_at hl 0 rfl) ?_
      refine lv_bipush (v := 97) hx hb dX7_sortAt_22 (by decide) ?_
      obtain ⟨k4, hk4, hf⟩ := jn_w hf
      have J4 : ∀ (M : Mem) (H : Heap) (locs : List Loc) (ls : Array Slot), lv_has ls 3 [(2, .int x3)] → va_P D classes (gws K G1 ad M) H → va_S A s.heap H locs → k4 M = some (r, M') → W p l e rm_X7_sortAt s m args below meth c H locs 0 0 Q (F0 m 35 ls []) := by
        intro M H locs ls hl hP hS hf
        rw [hk4] at hf
        refine lv_iload_n hx hb dX7_sortAt_35 rfl (lv_at hl 0 rfl) ?_
        refine lv_bipush (v := 48) hx hb dX7_sortAt_36 (by decide) ?_
        refine r_icmp_lt (tgt := 51) S dX7_sortAt_38 (by decide) hf (fun hf => ?_) (fun hf => ?_)
        · refine lv_iconst (v := 3) hx hb dX7_sortAt_51 (by decide) ?_
          exact hret _ _ _ _ _ _ dX7_sortAt_52 hP hS rfl hf
        · refine lv_iload_n hx hb dX7_sortAt_41 rfl (lv_at hl 0 rfl) ?_
          refine lv_bipush (v := 57) hx hb dX7_sortAt_42 (by decide) ?_
          refine r_icmp_gt (tgt := 51) S dX7_sortAt_44 (by decide) hf (fun hf => ?_) (fun hf => ?_)
          · refine lv_iconst (v := 3) hx hb dX7_sortAt_51 (by decide) ?_
            exact hret _ _ _ _ _ _ dX7_sortAt_52 hP hS rfl hf
          · refine lv_iconst (v := 2) hx hb dX7_sortAt_47 (by decide) ?_
            refine lv_goto (tgt := 52) hx hb dX7_sortAt_48 (by decide) ?_
            exact hret _ _ _ _ _ _ dX7_sortAt_52 hP hS rfl hf
      refine r_icmp_lt (tgt := 35) S dX7_sortAt_24 (by decide) hf (fun hf => ?_) (fun hf => ?_)
      · exact J4 M H locs ls (lv_sub hl [0] rfl) hP hS hf
      · refine lv_iload_n hx hb dX7_sortAt_27 rfl (lv_at hl 0 rfl) ?_
        refine lv_bipush (v := 122) hx hb dX7_sortAt_28 (by decide) ?_
        refine r_icmp_gt (tgt := 35) S dX7_sortAt_30 (by decide) hf (fun hf => ?_) (fun hf => ?_)
        · exact J4 M H locs ls (lv_sub hl [0] rfl) hP hS hf
        · refine lv_iconst (v := 1) hx hb dX7_sortAt_33 (by decide) ?_
          exact hret _ _ _ _ _ _ dX7_sortAt_34 hP hS rfl hf
    · refine lv_iconst (v := 0) hx hb dX7_sortAt_12 (by decide) ?_
      exact hret _ _ _ _ _ _ dX7_sortAt_13 hP hS rfl hf
theorem cw_X7_93 {R : Room} {s : State} {args : Array Value} (ht : ∀ w ∈ Tw, w.before args s = true) (hR : rm_X7_sortAt.frames + 1 ≤ R.frames ∧ 8 + (3 + 11) + rm_X7_sortAt.locals ≤ R.locals) : CallW R s args RX7 RX7 93 yX7_sortAt cX7_sortAt 3 (some .int) (ws_of yX7_sortAt cX7_sortAt 3 (some .int)) rm_X7_sortAt 0 0 1 := cw_V 1 ht k_553 k_555 k_2 k_70 k_556 (by decide +kernel) rfl rfl hR
section
variable {p : Program} {l : Launch} {e : Env} {R : Room} {s : State} {m : MethodId} {args : Array Value} {below : List Frame} {meth : Method} {c : Code} {H : Heap} {locs : List Loc} {cells slots : Nat} {Q : State → Prop} {cc : ByteArray} {pc : Nat} {ls : Array Slot} {rest : List Value} {nL : Nat} {D : va_G} {K : Ks} {ad : Nat → Nat} {A : Nat → Prop} {M : Mem} {β : Type} {z : β}
theorem gf_X7_32 (S : CallFix p m c cc nL s args Tw RX7) (hK : va_K D classes (gty K) s) (hP : va_P D classes (gws K G1 ad M) H) {a : Nat} {kk : Int32 → Option β} (ha : gcl G1 a = 7) (hdg : decode cc pc = .ok (.getfield 32, 3)) (hf : vv (M a 9) kk = some z) (w : ∀ x, kk x = some z → W p l e R s m args below meth c H locs cells slots Q (F0 m (pc + 3) ls (.int x :: rest))) : W p l e R s m args below meth c H locs cells slots Q (F0 m pc ls (.ref (ad a) :: rest)) := r_geti S hK hP (T := TX7) inX7 rfl (by decide) (by decide) ha (sf_X7_9 ha) k_299 hdg hf w
end
section
variable {p : Program} {l : Launch} {e : Env} {R : Room} {s : State} {m : MethodId} {args : Array Value} {below : List Frame} {meth : Method} {c : Code} {H : Heap} {locs : List Loc} {cells slots : Nat} {Q : State → Prop} {cc : ByteArray} {pc : Nat} {ls : Array Slot} {rest : List Value} {nL : Nat} {D : va_G} {K : Ks} {ad : Nat → Nat} {A : Nat → Prop} {M : Mem} {β : Type} {z : β}
theorem gf_X7_35 (S : CallFix p m c cc nL s args Tw RX7) (hK : va_K D classes (gty K) s) (hP : va_P D classes (gws K G1 ad M) H) {a : Nat} {kk : Int32 → Option β} (ha : gcl G1 a = 7) (hdg : decode cc pc = .ok (.getfield 35, 3)) (hf : vv (M a 10) kk = some z) (w : ∀ x, kk x = some z → W p l e R s m args below meth c H locs cells slots Q (F0 m (pc + 3) ls (.int x :: rest))) : W p l e R s m args below meth c H locs cells slots Q (F0 m pc ls (.ref (ad a) :: rest)) := r_geti S hK hP (T := TX7) inX7 rfl (by decide) (by decide) ha (sf_X7_10 ha) k_300 hdg hf w
end
section
variable {p : Program} {l : Launch} {e : Env} {R : Room} {s : State} {m : MethodId} {args : Array Value} {below : List Frame} {meth : Method} {c : Code} {H : Heap} {locs : List Loc} {cells slots : Nat} {Q : State → Prop} {cc : ByteArray} {pc : Nat} {ls : Array Slot} {rest : List Value} {nL : Nat} {D : va_G} {K : Ks} {ad : Nat → Nat} {A : Nat → Prop} {M : Mem} {β : Type} {z : β}
theorem gf_X7_48 (S : CallFix p m c cc nL s args Tw RX7) (hK : va_K D classes (gty K) s) (hP : va_P D classes (gws K G1 ad M) H) {a : Nat} {kk : Int32 → Option β} (ha : gcl G1 a = 7) (hdg : decode cc pc = .ok (.getfield 48, 3)) (hf : vv (M a 8) kk = some z) (w : ∀ x, kk x = some z → W p l e R s m args below meth c H locs cells slots Q (F0 m (pc + 3) ls (.int x :: rest))) : W p l e R s m args below meth c H locs cells slots Q (F0 m pc ls (.ref (ad a) :: rest)) := r_geti S hK hP (T := TX7) inX7 rfl (by decide) (by decide) ha (sf_X7_8 ha) k_298 hdg hf w
end
section
variable {p : Program} {l : Launch} {e : Env} {R : Room} {s : State} {m : MethodId} {args : Array Value} {below : List Frame} {meth : Method} {c : Code} {H : Heap} {locs : List Loc} {cells slots : Nat} {Q : State → Prop} {cc : ByteArray} {pc : Nat} {ls : Array Slot} {rest : List Value} {nL : Nat} {D : va_G} {K : Ks} {ad : Nat → Nat} {A : Nat → Prop} {M : Mem} {β : Type} {z : β}
theorem pf_X7_32 (S : CallFix p m c cc nL s args Tw RX7) (hK : va_K D classes (gty K) s) (hG : Gok G1 ad A) (hP : va_P D classes (gws K G1 ad M) H) (hS : va_S A s.heap H locs) {a : Nat} {v : Int32} {kk : Mem → Option β} (ha : gcl G1 a = 7) (hdg : decode cc pc = .ok (.putfield 32, 3)) (hf : mm (up M a 9 v) kk = some z) (w : ∀ M H locs, va_P D classes (gws K G1 ad M) H → va_S A s.heap H locs → kk M = some z → W p l e R s m args below meth c H locs cells slots Q (F0 m (pc + 3) ls rest)) : W p l e R s m args below meth c H locs cells slots Q (F0 m pc ls (.int v :: .ref (ad a) :: rest)) := r_putt S hK hG hP hS (k := 9) (T := TX7) inX7 rfl (by decide) tyX7 tyX7_ok nmX7 (by decide) rfl rfl rfl ha (sf_X7_9 ha) k_299 hdg hf w
end
section
variable {p : Program} {l : Launch} {e : Env} {R : Room} {s : State} {m : MethodId} {args : Array Value} {below : List Frame} {meth : Method} {c : Code} {H : Heap} {locs : List Loc} {cells slots : Nat} {Q : State → Prop} {cc : ByteArray} {pc : Nat} {ls : Array Slot} {rest : List Value} {nL : Nat} {D : va_G} {K : Ks} {ad : Nat → Nat} {A : Nat → Prop} {M : Mem} {β : Type} {z : β}
theorem pf_X7_35 (S : CallFix p m c cc nL s args Tw RX7) (hK : va_K D classes (gty K) s) (hG : Gok G1 ad A) (hP : va_P D classes (gws K G1 ad M) H) (hS : va_S A s.heap H locs) {a : Nat} {v : Int32} {kk : Mem → Option β} (ha : gcl G1 a = 7) (hdg : decode cc pc = .ok (.putfield 35, 3)) (hf : mm (up M a 10 v) kk = some z) (w : ∀ M H locs, va_P D classes (gws K G1 ad M) H → va_S A s.heap H locs → kk M = some z → W p l e R s m args below meth c H locs cells slots Q (F0 m (pc + 3) ls rest)) : W p l e R s m args below meth c H locs cells slots Q (F0 m pc ls (.int v :: .ref (ad a) :: rest)) := r_putt S hK hG hP hS (k := 10) (T := TX7) inX7 rfl (by decide) tyX7 tyX7_ok nmX7 (by decide) rfl rfl rfl ha (sf_X7_10 ha) k_300 hdg hf w
end
section
variable {p : Program} {l : Launch} {e : Env} {R : Room} {s : State} {m : MethodId} {args : Array Value} {below : List Frame} {meth : Method} {c : Code} {H : Heap} {locs : List Loc} {cells slots : Nat} {Q : State → Prop} {cc : ByteArray} {pc : Nat} {ls : Array Slot} {rest : List Value} {nL : Nat} {D : va_G} {K : Ks} {ad : Nat → Nat} {A : Nat → Prop} {M : Mem} {β : Type} {z : β}
theorem pf_X7_48 (S : CallFix p m c cc nL s args Tw RX7) (hK : va_K D classes (gty K) s) (hG : Gok G1 ad A) (hP : va_P D classes (gws K G1 ad M) H) (hS : va_S A s.heap H locs) {a : Nat} {v : Int32} {kk : Mem → Option β} (ha : gcl G1 a = 7) (hdg : decode cc pc = .ok (.putfield 48, 3)) (hf : mm (up M a 8 v) kk = some z) (w : ∀ M H locs, va_P D classes (gws K G1 ad M) H → va_S A s.heap H locs → kk M = some z → W p l e R s m args below meth c H locs cells slots Q (F0 m (pc + 3) ls rest)) : W p l e R s m args below meth c H locs cells slots Q (F0 m pc ls (.int v :: .ref (ad a) :: rest)) := r_putt S hK hG hP hS (k := 8) (T := TX7) inX7 rfl (by decide) tyX7 tyX7_ok nmX7 (by decide) rfl rfl rfl ha (sf_X7_8 ha) k_298 hdg hf w
end
def f_X7_forward (o : Nat) (M : Mem) : Option (Int32 × Mem) :=
  vv (M o 10) fun x1 =>
  jn (fun (v2 : Int32) (M : Mem) =>
    vv (M o 9) fun x4 =>
    mm (up M o 8 x4) fun M =>
    it0 (fun rc5 M =>
      vv (M o 8) fun x6 =>
      vv (M o 1) fun x7 =>
      jn (fun (M : Mem) =>
        vv (M o 8) fun x9 =>
        vv (M o 9) fun x10 =>
        jn (fun (v11 : Int32) (M : Mem) =>
          vv (M o 8) fun x13 =>
          mm (up M o 9 x13) fun M =>
          vv (M o 8) fun x14 =>
          bd (f_X7_sortAt o x14 M) fun x15 M =>
          mm (up M o 10 x15) fun M =>
          vv (M o 10) fun x16 =>
          if x16 = 0 then
            some (0, M)
          else
            vv (M o 9) fun x17 =>
            mm (up M o 9 (x17 + 1)) fun M =>
            vv (M o 10) fun x18 =>
            if x18 = 3 then
              some (0, M)
            else
              it0 (fun rc19 M =>
                vv (M o 9) fun x20 =>
                vv (M o 1) fun x21 =>
                jn (fun (M : Mem) =>
                  if v2 = 0 then
                    some (0, M)
                  else
                    if v11 = 0 then
                      mm (up M o 10 4) fun M =>
                      some (0, M)
                    else
                      some (0, M)
                ) fun k22 =>
                if x20 < x21 then
                  vv (M o 9) fun x23 =>
                  bd (f_X7_sortAt o x23 M) fun x24 M =>
                  vv (M o 10) fun x25 =>
                  if x24 = x25 then
                    vv (M o 9) fun x26 =>
                    mm (up M o 9 (x26 + 1)) fun M =>
                    rc19 M
                  else
                    k22 M
                else
                  k22 M
              ) fuel M
        ) fun k12 =>
        if x10 < x9 then
          k12 1 M
        else
          k12 0 M
      ) fun k8 =>
      if x6 < x7 then
        vv (grf G1 o 0) fun x27 =>
        vv (M o 8) fun x28 =>
        ld M x27 x28 96 fun x29 =>
        if x29 = 32 then
          vv (M o 8) fun x30 =>
          mm (up M o 8 (x30 + 1)) fun M =>
          rc5 M
        else
          k8 M
      else
        k8 M
    ) fuel M
  ) fun k3 =>
  if x1 = 1 then
    k3 1 M
  else
    vv (M o 10) fun x31 =>
    if x31 = 2 then
      k3 1 M
    else
      k3 0 M
def rm_X7_forward : Room := { frames := 1, cells := 0, slots := 0, locals := 22 }
set_option maxHeartbeats 4000000 in
set_option maxRecDepth 100000 in
theorem c_X7_forward {l : Launch} {D : va_G} {K : Ks} {ad : Nat → Nat} {A : Nat → Prop} {tC tA tP : Nat} {kK kV : Nat → Nat} (hG : Gok G1 ad A) {o : Nat} (h0 : gcl G1 o = 7) {M : Mem} {r : Int32} {M' : Mem} (hf : f_X7_forward o M = some (r, M')) : Cv l (E1 A tC tA tP kK kV) D K G1 ad A yX7_forward (ws_of yX7_forward cX7_forward 3 none) rm_X7_forward [.ref (ad o)] M M' := by
  have hst : Est A (E1 A tC tA tP kK kV) := est1
  refine Cv.ofW (r := r) (by decide) (Nat.le_of_ble_eq_true rfl) ?_
  intro p e s m args below meth c Q H locs ls S hK hE hP hS hl hret
  have hx := S.1
  have hb := S.2.1
  have hown := S.2.2.2.1
  have ht := S.2.2.2.2
  have hl : lv_has ls 3 [(0, .ref (ad o))] := hl
  unfold f_X7_forward at hf
  refine lv_aload_n hx hb dX7_forward_0 rfl (lv_at hl 0 rfl) ?_
  refine gf_X7_35 S hK hP h0 dX7_forward_1 hf (fun x1 hf => ?_)
  refine lv_iconst (v := 1) hx hb dX7_forward_4 (by decide) ?_
  obtain ⟨k3, hk3, hf⟩ := jn_w hf
  have J3 : ∀ (v2 : Int32) (M : Mem) (H : Heap) (locs : List Loc) (ls : Array Slot), lv_has ls 3 [(0, .ref (ad o))] → va_P D classes (gws K G1 ad M) H → va_S A s.heap H locs → k3 v2 M = some (r, M') → W p l e rm_X7_forward s m args below meth c H locs 0 0 Q (F0 m 21 ls [.int v2]) := by
    intro v2 M H locs ls hl hP hS hf
    rw [hk3] at hf
    refine lv_istore_n (lv' := [(1, .int v2), (0, .ref (ad o))]) hx hb dX7_forward_21 rfl hl (by decide) rfl (fun ls hl => ?_)
    refine lv_aload_n hx hb dX7_forward_22 rfl (lv_at hl 1 rfl) ?_
    refine lv_aload_n hx hb dX7_forward_23 rfl (lv_at hl 1 rfl) ?_
    refine gf_X7_32 S hK hP h0 dX7_forward_24 hf (fun x4 hf => ?_)
    refine pf_X7_48 S hK hG hP hS h0 dX7_forward_27 hf (fun M H locs hP hS hf => ?_)
    obtain ⟨F5, hF5, hf⟩ := it0_g hf
    have L5 : ∀ (n : Nat) (M : Mem) (H : Heap) (locs : List Loc) (ls : Array Slot), lv_has ls 3 [(0, .ref (ad o)), (1, .int v2)] → va_P D classes (gws K G1 ad M) H → va_S A s.heap H locs → it0 F5 n M = some (r, M') → W p l e rm_X7_forward s m args below meth c H locs 0 0 Q (F0 m 30 ls []) := by
      intro n
      induction n with
      | zero => intro M H locs ls hl hP hS hf; exact nomatch hf
      | succ n ih5 =>
        intro M H locs ls hl hP hS hf
        obtain ⟨rc5, hrc5, hf⟩ := it0_w hf
        rw [← hrc5] at ih5
        rw [hF5] at hf
        refine lv_aload_n hx hb dX7_forward_30 rfl (lv_at hl 0 rfl) ?_
        refine gf_X7_48 S hK hP h0 dX7_forward_31 hf (fun x6 hf => ?_)
        refine lv_aload_n hx hb dX7_forward_34 rfl (lv_at hl 0 rfl) ?_
        refine gf_X7_19 S hK hP h0 dX7_forward_35 hf (fun x7 hf => ?_)
        obtain ⟨k8, hk8, hf⟩ := jn_w hf
        have J8 : ∀ (M : Mem) (H : Heap) (locs : List Loc) (ls : Array Slot), lv_has ls 3 [(0, .ref (ad o)), (1, .int v2)] → va_P D classes (gws K G1 ad M) H → va_S A s.heap H locs → k8 M = some (r, M') → W p l e rm_X7_forward s m args below meth c H locs 0 0 Q (F0 m 68 ls []) := by
          intro M H locs ls hl hP hS hf
          rw [hk8] at hf
          refine lv_aload_n hx hb dX7_forward_68 rfl (lv_at hl 0 rfl) ?_
          refine gf_X7_48 S hK hP h0 dX7_forward_69 hf (fun x9 hf => ?_)
          refine lv_aload_n hx hb dX7_forward_72 rfl (lv_at hl 0 rfl) ?_
          refine gf_X7_32 S hK hP h0 dX7_forward_73 hf (fun x10 hf => ?_)
          obtain ⟨k12, hk12, hf⟩ := jn_w hf
          have J12 : ∀ (v11 : Int32) (M : Mem) (H : Heap) (locs : List Loc) (ls : Array Slot), lv_has ls 3 [(0, .ref (ad o)), (1, .int v2)] → va_P D classes (gws K G1 ad M) H → va_S A s.heap H locs → k12 v11 M = some (r, M') → W p l e rm_X7_forward s m args below meth c H locs 0 0 Q (F0 m 84 ls [.int v11]) := by
            intro v11 M H locs ls hl hP hS hf
            rw [hk12] at hf
            refine lv_istore_n (lv' := [(2, .int v11), (0, .ref (ad o)), (1, .int v2)]) hx hb dX7_forward_84 rfl hl (by decide) rfl (fun ls hl => ?_)
            refine lv_aload_n hx hb dX7_forward_85 rfl (lv_at hl 1 rfl) ?_
            refine lv_aload_n hx hb dX7_forward_86 rfl (lv_at hl 1 rfl) ?_
            refine gf_X7_48 S hK hP h0 dX7_forward_87 hf (fun x13 hf => ?_)
            refine pf_X7_32 S hK hG hP hS h0 dX7_forward_90 hf (fun M H locs hP hS hf => ?_)
            refine lv_aload_n hx hb dX7_forward_93 rfl (lv_at hl 1 rfl) ?_
            refine lv_aload_n hx hb dX7_forward_94 rfl (lv_at hl 1 rfl) ?_
            refine lv_aload_n hx hb dX7_forward_95 rfl (lv_at hl 1 rfl) ?_
            refine gf_X7_48 S hK hP h0 dX7_forward_96 hf (fun x14 hf => ?_)
            refine r_callV (As := [.int x14]) (rest := [.ref (ad o)]) S hK hE hst hP hS h0 (by decide) rfl (cw_X7_93 ht ⟨Nat.le_of_ble_eq_true rfl, Nat.le_of_ble_eq_true rfl⟩) rfl hl.1 rfl (Nat.le_of_ble_eq_true rfl) dX7_forward_99 z2 (fun _ _ h => c_X7_sortAt hG  h0 h) hf (fun x15 M H locs hP hS bx15 hf => ?_)
            refine pf_X7_35 S hK hG hP hS h0 dX7_forward_102 hf (fun M H locs hP hS hf => ?_)
            refine lv_aload_n hx hb dX7_forward_105 rfl (lv_at hl 1 rfl) ?_
            refine gf_X7_35 S hK hP h0 dX7_forward_106 hf (fun x16 hf => ?_)
            refine r_if_ne (tgt := 113) S dX7_forward_109 (by decide) hf (fun hf => ?_) (fun hf => ?_)
            · refine lv_aload_n hx hb dX7_forward_113 rfl (lv_at hl 1 rfl) ?_
              refine lv_dup hx hb dX7_forward_114 rfl ?_
              refine gf_X7_32 S hK hP h0 dX7_forward_115 hf (fun x17 hf => ?_)
              refine lv_iconst (v := 1) hx hb dX7_forward_118 (by decide) ?_
              refine lv_iadd hx hb dX7_forward_119 ?_
              refine pf_X7_32 S hK hG hP hS h0 dX7_forward_120 hf (fun M H locs hP hS hf => ?_)
              refine lv_aload_n hx hb dX7_forward_123 rfl (lv_at hl 1 rfl) ?_
              refine gf_X7_35 S hK hP h0 dX7_forward_124 hf (fun x18 hf => ?_)
              refine lv_iconst (v := 3) hx hb dX7_forward_127 (by decide) ?_
              refine r_icmp_ne (tgt := 132) S dX7_forward_128 (by decide) hf (fun hf => ?_) (fun hf => ?_)
              · obtain ⟨F19, hF19, hf⟩ := it0_g hf
                have L19 : ∀ (n : Nat) (M : Mem) (H : Heap) (locs : List Loc) (ls : Array Slot), lv_has ls 3 [(0, .ref (ad o)), (1, .int v2), (2, .int v11)] → va_P D classes (gws K G1 ad M) H → va_S A s.heap H locs → it0 F19 n M = some (r, M') → W p l e rm_X7_forward s m args below meth c H locs 0 0 Q (F0 m 132 ls []) := by
                  intro n
                  induction n with
                  | zero => intro M H locs ls hl hP hS hf; exact nomatch hf
                  | succ n ih19 =>
                    intro M H locs ls hl hP hS hf
                    obtain ⟨rc19, hrc19, hf⟩ := it0_w hf
                    rw [← hrc19] at ih19
                    rw [hF19] at hf
                    refine lv_aload_n hx hb dX7_forward_132 rfl (lv_at hl 0 rfl) ?_
                    refine gf_X7_32 S hK hP h0 dX7_forward_133 hf (fun x20 hf => ?_)
                    refine lv_aload_n hx hb dX7_forward_136 rfl (lv_at hl 0 rfl) ?_
                    refine gf_X7_19 S hK hP h0 dX7_forward_137 hf (fun x21 hf => ?_)
                    obtain ⟨k22, hk22, hf⟩ := jn_w hf
                    have J22 : ∀ (M : Mem) (H : Heap) (locs : List Loc) (ls : Array Slot), lv_has ls 3 [(0, .ref (ad o)), (1, .int v2), (2, .int v11)] → va_P D classes (gws K G1 ad M) H → va_S A s.heap H locs → k22 M = some (r, M') → W p l e rm_X7_forward s m args below meth c H locs 0 0 Q (F0 m 171 ls []) := by
                      intro M H locs ls hl hP hS hf
                      rw [hk22] at hf
                      refine lv_iload_n hx hb dX7_forward_171 rfl (lv_at hl 1 rfl) ?_
                      refine r_if_eq (tgt := 184) S dX7_forward_172 (by decide) hf (fun hf => ?_) (fun hf => ?_)
                      · exact hret _ _ _ _ _ _ dX7_forward_184 hP hS hf
                      · refine lv_iload_n hx hb dX7_forward_175 rfl (lv_at hl 2 rfl) ?_
                        refine r_if_ne (tgt := 184) S dX7_forward_176 (by decide) hf (fun hf => ?_) (fun hf => ?_)
                        · exact hret _ _ _ _ _ _ dX7_forward_184 hP hS hf
                        · refine lv_aload_n hx hb dX7_forward_179 rfl (lv_at hl 0 rfl) ?_
                          refine lv_iconst (v := 4) hx hb dX7_forward_180 (by decide) ?_
                          refine pf_X7_35 S hK hG hP hS h0 dX7_forward_181 hf (fun M H locs hP hS hf => ?_)
                          exact hret _ _ _ _ _ _ dX7_forward_184 hP hS hf
                    refine r_icmp_ge (tgt := 171) S dX7_forward_140 (by decide) hf (fun hf => ?_) (fun hf => ?_)
                    · exact J22 M H locs ls (lv_sub hl [0, 1, 2] rfl) hP hS hf
                    · refine lv_aload_n hx hb dX7_forward_143 rfl (lv_at hl 0 rfl) ?_
                      refine lv_aload_n hx hb dX7_forward_144 rfl (lv_at hl 0 rfl) ?_
                      refine gf_X7_32 S hK hP h0 dX7_forward_145 hf (fun x23 hf => ?_)
                      refine r_callV (As := [.int x23]) (rest := []) S hK hE hst hP hS h0 (by decide) rfl (cw_X7_93 ht ⟨Nat.le_of_ble_eq_true rfl, Nat.le_of_ble_eq_true rfl⟩) rfl hl.1 rfl (Nat.le_of_ble_eq_true rfl) dX7_forward_148 z2 (fun _ _ h => c_X7_sortAt hG  h0 h) hf (fun x24 M H locs hP hS bx24 hf => ?_)
                      refine lv_aload_n hx hb dX7_forward_151 rfl (lv_at hl 0 rfl) ?_
                      refine gf_X7_35 S hK hP h0 dX7_forward_152 hf (fun x25 hf => ?_)
                      refine r_icmp_ne (tgt := 171) S dX7_forward_155 (by decide) hf (fun hf => ?_) (fun hf => ?_)
                      · exact J22 M H locs ls (lv_sub hl [0, 1, 2] rfl) hP hS hf
                      · refine lv_aload_n hx hb dX7_forward_158 rfl (lv_at hl 0 rfl) ?_
                        refine lv_dup hx hb dX7_forward_159 rfl ?_
                        refine gf_X7_32 S hK hP h0 dX7_forward_160 hf (fun x26 hf => ?_)
                        refine lv_iconst (v := 1) hx hb dX7_forward_163 (by decide) ?_
                        refine lv_iadd hx hb dX7_forward_164 ?_
                        refine pf_X7_32 S hK hG hP hS h0 dX7_forward_165 hf (fun M H locs hP hS hf => ?_)
                        refine lv_goto (tgt := 132) hx hb dX7_forward_168 (by decide) ?_
                        exact ih19 M H locs ls (lv_sub hl [0, 1, 2] rfl) hP hS hf
                exact L19 _ M H locs ls (lv_sub hl [1, 2, 0] rfl) hP hS hf
              · exact hret _ _ _ _ _ _ dX7_forward_131 hP hS hf
            · exact hret _ _ _ _ _ _ dX7_forward_112 hP hS hf
          refine r_icmp_le (tgt := 83) S dX7_forward_76 (by decide) hf (fun hf => ?_) (fun hf => ?_)
          · refine lv_iconst (v := 0) hx hb dX7_forward_83 (by decide) ?_
            exact J12 0 M H locs ls (lv_sub hl [0, 1] rfl) hP hS hf
          · refine lv_iconst (v := 1) hx hb dX7_forward_79 (by decide) ?_
            refine lv_goto (tgt := 84) hx hb dX7_forward_80 (by decide) ?_
            exact J12 1 M H locs ls (lv_sub hl [0, 1] rfl) hP hS hf
        refine r_icmp_ge (tgt := 68) S dX7_forward_38 (by decide) hf (fun hf => ?_) (fun hf => ?_)
        · exact J8 M H locs ls (lv_sub hl [0, 1] rfl) hP hS hf
        · refine lv_aload_n hx hb dX7_forward_41 rfl (lv_at hl 0 rfl) ?_
          refine gf_X7_9 S hK hP h0 dX7_forward_42 hf (fun x27 hx27 hf => ?_)
          refine lv_aload_n hx hb dX7_forward_45 rfl (lv_at hl 0 rfl) ?_
          refine gf_X7_48 S hK hP h0 dX7_forward_46 hf (fun x28 hf => ?_)
          refine r_bald S hK hP hx27 dX7_forward_49 hf (fun x29 hf => ?_)
          refine lv_bipush (v := 32) hx hb dX7_forward_50 (by decide) ?_
          refine r_icmp_ne (tgt := 68) S dX7_forward_52 (by decide) hf (fun hf => ?_) (fun hf => ?_)
          · exact J8 M H locs ls (lv_sub hl [0, 1] rfl) hP hS hf
          · refine lv_aload_n hx hb dX7_forward_55 rfl (lv_at hl 0 rfl) ?_
            refine lv_dup hx hb dX7_forward_56 rfl ?_
            refine gf_X7_48 S hK hP h0 dX7_forward_57 hf (fun x30 hf => ?_)
            refine lv_iconst (v := 1) hx hb dX7_forward_60 (by decide) ?_
            refine lv_iadd hx hb dX7_forward_61 ?_
            refine pf_X7_48 S hK hG hP hS h0 dX7_forward_62 hf (fun M H locs hP hS hf => ?_)
            refine lv_goto (tgt := 30) hx hb dX7_forward_65 (by decide) ?_
            exact ih5 M H locs ls (lv_sub hl [0, 1] rfl) hP hS hf
    exact L5 _ M H locs ls (lv_sub hl [1, 0] rfl) hP hS hf
  refine r_icmp_eq (tgt := 16) S dX7_forward_5 (by decide) hf (fun hf => ?_) (fun hf => ?_)
  · refine lv_iconst (v := 1) hx hb dX7_forward_16 (by decide) ?_
    refine lv_goto (tgt := 21) hx hb dX7_forward_17 (by decide) ?_
    exact J3 1 M H locs ls (lv_sub hl [0] rfl) hP hS hf
  · refine lv_aload_n hx hb dX7_forward_8 rfl (lv_at hl 0 rfl) ?_
    refine gf_X7_35 S hK hP h0 dX7_forward_9 hf (fun x31 hf => ?_)
    refine lv_iconst (v := 2) hx hb dX7_forward_12 (by decide) ?_
    refine r_icmp_ne (tgt := 20) S dX7_forward_13 (by decide) hf (fun hf => ?_) (fun hf => ?_)
    · refine lv_iconst (v := 0) hx hb dX7_forward_20 (by decide) ?_
      exact J3 0 M H locs ls (lv_sub hl [0] rfl) hP hS hf
    · refine lv_iconst (v := 1) hx hb dX7_forward_16 (by decide) ?_
      refine lv_goto (tgt := 21) hx hb dX7_forward_17 (by decide) ?_
      exact J3 1 M H locs ls (lv_sub hl [0] rfl) hP hS hf
def f_J0_coder_7d493 (o : Nat) (M : Mem) : Option (Int32 × Mem) :=
  some (0, M)
def rm_J0_coder_7d493 : Room := { frames := 0, cells := 0, slots := 0, locals := 0 }
set_option maxHeartbeats 4000000 in
set_option maxRecDepth 100000 in
theorem c_J0_coder_7d493 {l : Launch} {D : va_G} {K : Ks} {ad : Nat → Nat} {A : Nat → Prop} {tC tA tP : Nat} {kK kV : Nat → Nat} (hG : Gok G1 ad A) {o : Nat} (h0 : o < 6) {M : Mem} {r : Int32} {M' : Mem} (hf : f_J0_coder_7d493 o M = some (r, M')) : Ct l (E1 A tC tA tP kK kV) D K G1 ad A yJ0_coder_7d493 (ws_of yJ0_coder_7d493 cJ0_coder_7d493 1 (some .byte)) rm_J0_coder_7d493 .byte [.ref (kK o)] M r M' := by
  have hst : Est A (E1 A tC tA tP kK kV) := est1
  refine Ct.ofW (by decide) (Nat.le_of_ble_eq_true rfl) ?_
  intro p e s m args below meth c Q H locs ls S hK hE hP hS hl hret
  have hx := S.1
  have hb := S.2.1
  have hown := S.2.2.2.1
  have ht := S.2.2.2.2
  have hl : lv_has ls 1 [(0, .ref (kK o))] := hl
  unfold f_J0_coder_7d493 at hf
  refine va_gets hx hb hE.2.2.2.2.2.2.2.2.2.1 hS hown (ht _ k_578) (fun _ h => h) dJ0_coder_7d493_0 ?_
  refine lv_if_eq (tgt := 13) hx hb dJ0_coder_7d493_3 (by decide) (fun q => absurd q (by decide)) (fun _ => ?_)
  refine lv_aload_n hx hb dJ0_coder_7d493_6 rfl (lv_at hl 0 rfl) ?_
  refine vk_getf hx hb (hE.2.2.2.2.2.2.2.2.1.1 o h0).2.1 hS hown (ht _ k_1668) (fun _ h => h) dJ0_coder_7d493_7 ?_
  refine lv_goto (tgt := 14) hx hb dJ0_coder_7d493_10 (by decide) ?_
  exact hret _ _ _ _ _ _ dJ0_coder_7d493_14 hP hS rfl hf
theorem cw_J0_335 {R : Room} {s : State} {args : Array Value} (ht : ∀ w ∈ Tw, w.before args s = true) (hR : rm_J0_coder_7d493.frames + 1 ≤ R.frames ∧ 8 + (1 + 11) + rm_J0_coder_7d493.locals ≤ R.locals) : CallW R s args RJ0 RJ0 335 yJ0_coder_7d493 cJ0_coder_7d493 1 (some .byte) (ws_of yJ0_coder_7d493 cJ0_coder_7d493 1 (some .byte)) rm_J0_coder_7d493 0 0 0 := cw_V 0 ht k_574 k_575 k_576 k_75 k_577 (by decide +kernel) rfl rfl hR
def f_J0_length_8abf5 (o : Nat) (M : Mem) : Option (Int32 × Mem) :=
  bd (f_J0_coder_7d493 o M) fun x1 M =>
  some (((nI (lenS.getD o 0)) >>> (x1 &&& 31)), M)
def rm_J0_length_8abf5 : Room := { frames := 1, cells := 0, slots := 0, locals := 20 }
set_option maxHeartbeats 4000000 in
set_option maxRecDepth 100000 in
theorem c_J0_length_8abf5 {l : Launch} {D : va_G} {K : Ks} {ad : Nat → Nat} {A : Nat → Prop} {tC tA tP : Nat} {kK kV : Nat → Nat} (hG : Gok G1 ad A) {o : Nat} (h0 : o < 6) {M : Mem} {r : Int32} {M' : Mem} (hf : f_J0_length_8abf5 o M = some (r, M')) : Ct l (E1 A tC tA tP kK kV) D K G1 ad A yJ0_length_8abf5 (ws_of yJ0_length_8abf5 cJ0_length_8abf5 1 (some .int)) rm_J0_length_8abf5 .int [.ref (kK o)] M r M' := by
  have hst : Est A (E1 A tC tA tP kK kV) := est1
  refine Ct.ofW (by decide) (Nat.le_of_ble_eq_true rfl) ?_
  intro p e s m args below meth c Q H locs ls S hK hE hP hS hl hret
  have hx := S.1
  have hb := S.2.1
  have hown := S.2.2.2.1
  have ht := S.2.2.2.2
  have hl : lv_has ls 1 [(0, .ref (kK o))] := hl
  unfold f_J0_length_8abf5 at hf
  refine lv_aload_n hx hb dJ0_length_8abf5_0 rfl (lv_at hl 0 rfl) ?_
  refine vk_getf hx hb (hE.2.2.2.2.2.2.2.2.1.1 o h0).2.2.1 hS hown (ht _ k_1667) (fun _ h => h) dJ0_length_8abf5_1 ?_
  refine va_tlen (v := (nI (lenS.getD o 0))) hx hb (hE.2.2.2.2.2.2.2.2.1.1 o h0).2.2.2 hS rfl dJ0_length_8abf5_4 ?_
  refine lv_aload_n hx hb dJ0_length_8abf5_5 rfl (lv_at hl 0 rfl) ?_
  refine r_callK (As := []) (rest := [.int (nI (lenS.getD o 0))]) S hK hE hst hP hS h0 (cw_J0_335 ht ⟨Nat.le_of_ble_eq_true rfl, Nat.le_of_ble_eq_true rfl⟩) rfl hl.1 rfl (Nat.le_of_ble_eq_true rfl) dJ0_length_8abf5_6 z2 (fun _ _ h => c_J0_coder_7d493 hG  h0 h) hf (fun x1 M H locs hP hS bx1 hf => ?_)
  refine lv_ishr hx hb dJ0_length_8abf5_9 ?_
  exact hret _ _ _ _ _ _ dJ0_length_8abf5_10 hP hS rfl hf
def f_J0_isLatin1_aae02 (o : Nat) (M : Mem) : Option (Int32 × Mem) :=
  some (1, M)
def rm_J0_isLatin1_aae02 : Room := { frames := 0, cells := 0, slots := 0, locals := 0 }
set_option maxHeartbeats 4000000 in
set_option maxRecDepth 100000 in
theorem c_J0_isLatin1_aae02 {l : Launch} {D : va_G} {K : Ks} {ad : Nat → Nat} {A : Nat → Prop} {tC tA tP : Nat} {kK kV : Nat → Nat} (hG : Gok G1 ad A) {o : Nat} (h0 : o < 6) {M : Mem} {r : Int32} {M' : Mem} (hf : f_J0_isLatin1_aae02 o M = some (r, M')) : Ct l (E1 A tC tA tP kK kV) D K G1 ad A yJ0_isLatin1_aae02 (ws_of yJ0_isLatin1_aae02 cJ0_isLatin1_aae02 1 (some .boolean)) rm_J0_isLatin1_aae02 .boolean [.ref (kK o)] M r M' := by
  have hst : Est A (E1 A tC tA tP kK kV) := est1
  refine Ct.ofW (by decide) (Nat.le_of_ble_eq_true rfl) ?_
  intro p e s m args below meth c Q H locs ls S hK hE hP hS hl hret
  have hx := S.1
  have hb := S.2.1
  have hown := S.2.2.2.1
  have ht := S.2.2.2.2
  have hl : lv_has ls 1 [(0, .ref (kK o))] := hl
  unfold f_J0_isLatin1_aae02 at hf
  refine va_gets hx hb hE.2.2.2.2.2.2.2.2.2.1 hS hown (ht _ k_578) (fun _ h => h) dJ0_isLatin1_aae02_0 ?_
  refine lv_if_eq (tgt := 17) hx hb dJ0_isLatin1_aae02_3 (by decide) (fun q => absurd q (by decide)) (fun _ => ?_)
  refine lv_aload_n hx hb dJ0_isLatin1_aae02_6 rfl (lv_at hl 0 rfl) ?_
  refine vk_getf hx hb (hE.2.2.2.2.2.2.2.2.1.1 o h0).2.1 hS hown (ht _ k_1668) (fun _ h => h) dJ0_isLatin1_aae02_7 ?_
  refine lv_if_ne (tgt := 17) hx hb dJ0_isLatin1_aae02_10 (by decide) (fun q => absurd q (by decide)) (fun _ => ?_)
  refine lv_iconst (v := 1) hx hb dJ0_isLatin1_aae02_13 (by decide) ?_
  refine lv_goto (tgt := 18) hx hb dJ0_isLatin1_aae02_14 (by decide) ?_
  exact hret _ _ _ _ _ _ dJ0_isLatin1_aae02_18 hP hS rfl hf
def f_J3_checkIndex_8e157 (p0 : Int32) (p1 : Int32) (M : Mem) : Option (Int32 × Mem) :=
  jn (fun (M : Mem) =>
    none
  ) fun k1 =>
  if p0 < 0 then
    k1 M
  else
    if p0 < p1 then
      some (p0, M)
    else
      k1 M
def rm_J3_checkIndex_8e157 : Room := { frames := 0, cells := 0, slots := 0, locals := 0 }
set_option maxHeartbeats 4000000 in
set_option maxRecDepth 100000 in
theorem c_J3_checkIndex_8e157 {l : Launch} {D : va_G} {K : Ks} {ad : Nat → Nat} {A : Nat → Prop} {tC tA tP : Nat} {kK kV : Nat → Nat} (hG : Gok G1 ad A) {p0 : Int32} {p1 : Int32} (p2 : Option Nat) {M : Mem} {r : Int32} {M' : Mem} (hf : f_J3_checkIndex_8e157 p0 p1 M = some (r, M')) : Ct l (E1 A tC tA tP kK kV) D K G1 ad A yJ3_checkIndex_8e157 (ws_of yJ3_checkIndex_8e157 cJ3_checkIndex_8e157 3 (some .int)) rm_J3_checkIndex_8e157 .int [.int p0, .int p1, va_rf p2] M r M' := by
  have hst : Est A (E1 A tC tA tP kK kV) := est1
  refine Ct.ofW (by decide) (by cases p2 <;> exact Nat.le_of_ble_eq_true rfl) ?_
  intro p e s m args below meth c Q H locs ls S hK hE hP hS hl hret
  have hx := S.1
  have hb := S.2.1
  have hown := S.2.2.2.1
  have ht := S.2.2.2.2
  have hl : lv_has ls 3 [(0, .int p0), (1, .int p1), (2, va_rf p2)] := hl
  unfold f_J3_checkIndex_8e157 at hf
  refine lv_iload_n hx hb dJ3_checkIndex_8e157_0 rfl (lv_at hl 0 rfl) ?_
  obtain ⟨k1, hk1, hf⟩ := jn_w hf
  have J1 : ∀ (M : Mem) (H : Heap) (locs : List Loc) (ls : Array Slot), lv_has ls 3 [(0, .int p0), (1, .int p1), (2, va_rf p2)] → va_P D classes (gws K G1 ad M) H → va_S A s.heap H locs → k1 M = some (r, M') → W p l e rm_J3_checkIndex_8e157 s m args below meth c H locs 0 0 Q (F0 m 9 ls []) := by
    intro M H locs ls hl hP hS hf
    rw [hk1] at hf
    exact nomatch hf
  refine r_if_lt (tgt := 9) S dJ3_checkIndex_8e157_1 (by decide) hf (fun hf => ?_) (fun hf => ?_)
  · exact J1 M H locs ls (lv_sub hl [0, 1, 2] rfl) hP hS hf
  · refine lv_iload_n hx hb dJ3_checkIndex_8e157_4 rfl (lv_at hl 0 rfl) ?_
    refine lv_iload_n hx hb dJ3_checkIndex_8e157_5 rfl (lv_at hl 1 rfl) ?_
    refine r_icmp_lt (tgt := 16) S dJ3_checkIndex_8e157_6 (by decide) hf (fun hf => ?_) (fun hf => ?_)
    · refine lv_iload_n hx hb dJ3_checkIndex_8e157_16 rfl (lv_at hl 0 rfl) ?_
      exact hret _ _ _ _ _ _ dJ3_checkIndex_8e157_17 hP hS rfl hf
    · exact J1 M H locs ls (lv_sub hl [0, 1, 2] rfl) hP hS hf
theorem cw_J0_1059 {R : Room} {s : State} {args : Array Value} (ht : ∀ w ∈ Tw, w.before args s = true) (hR : rm_J3_checkIndex_8e157.frames + 1 ≤ R.frames ∧ 8 + (3 + 11) + rm_J3_checkIndex_8e157.locals ≤ R.locals) : CallB R s args RJ0 1059 yJ3_checkIndex_8e157 cJ3_checkIndex_8e157 3 (some .int) (ws_of yJ3_checkIndex_8e157 cJ3_checkIndex_8e157 3 (some .int)) rm_J3_checkIndex_8e157 0 0 3 ∧ (Cond.static yJ3_checkIndex_8e157).before args s = true := cw_S 3 ht k_596 k_597 k_77 k_598 (by decide +kernel) rfl rfl hR
def f_J0_checkIndex_df160 (p0 : Int32) (p1 : Int32) (M : Mem) : Option (Int32 × Mem) :=
  bd (f_J3_checkIndex_8e157 p0 p1 M) fun x2 M =>
  some (0, M)
def rm_J0_checkIndex_df160 : Room := { frames := 1, cells := 0, slots := 0, locals := 22 }
set_option maxHeartbeats 4000000 in
set_option maxRecDepth 100000 in
theorem c_J0_checkIndex_df160 {l : Launch} {D : va_G} {K : Ks} {ad : Nat → Nat} {A : Nat → Prop} {tC tA tP : Nat} {kK kV : Nat → Nat} (hG : Gok G1 ad A) {p0 : Int32} {p1 : Int32}  {M : Mem} {r : Int32} {M' : Mem} (hf : f_J0_checkIndex_df160 p0 p1 M = some (r, M')) : Cv l (E1 A tC tA tP kK kV) D K G1 ad A yJ0_checkIndex_df160 (ws_of yJ0_checkIndex_df160 cJ0_checkIndex_df160 2 none) rm_J0_checkIndex_df160 [.int p0, .int p1] M M' := by
  have hst : Est A (E1 A tC tA tP kK kV) := est1
  refine Cv.ofW (r := r) (by decide) (Nat.le_of_ble_eq_true rfl) ?_
  intro p e s m args below meth c Q H locs ls S hK hE hP hS hl hret
  have hx := S.1
  have hb := S.2.1
  have hown := S.2.2.2.1
  have ht := S.2.2.2.2
  have hl : lv_has ls 2 [(0, .int p0), (1, .int p1)] := hl
  unfold f_J0_checkIndex_df160 at hf
  refine lv_iload_n hx hb dJ0_checkIndex_df160_0 rfl (lv_at hl 0 rfl) ?_
  refine lv_iload_n hx hb dJ0_checkIndex_df160_1 rfl (lv_at hl 1 rfl) ?_
  refine r_zq S hE.2.2.2.2.2.2.2.2.2.2.2.2.2.2.2.2 hS (fun _ h => h) k_594 dJ0_checkIndex_df160_2 (fun q1 => ?_)
  refine r_callS (As := [.int p0, .int p1, va_rf q1]) (rest := []) S hK hE hst hP hS (cw_J0_1059 ht ⟨Nat.le_of_ble_eq_true rfl, Nat.le_of_ble_eq_true rfl⟩) rfl hl.1 rfl (Nat.le_of_ble_eq_true rfl) dJ0_checkIndex_df160_5 z2 (fun _ _ h => c_J3_checkIndex_8e157 hG  q1 h) hf (fun x2 M H locs hP hS bx2 hf => ?_)
  refine lv_pop hx hb dJ0_checkIndex_df160_8 rfl ?_
  exact hret _ _ _ _ _ _ dJ0_checkIndex_df160_9 hP hS hf
theorem cw_J1_9 {R : Room} {s : State} {args : Array Value} (ht : ∀ w ∈ Tw, w.before args s = true) (hR : rm_J0_checkIndex_df160.frames + 1 ≤ R.frames ∧ 8 + (2 + 11) + rm_J0_checkIndex_df160.locals ≤ R.locals) : CallB R s args RJ1 9 yJ0_checkIndex_df160 cJ0_checkIndex_df160 2 none (ws_of yJ0_checkIndex_df160 cJ0_checkIndex_df160 2 none) rm_J0_checkIndex_df160 0 0 2 ∧ (Cond.static yJ0_checkIndex_df160).before args s = true := cw_S 2 ht k_591 k_592 k_75 k_593 (by decide +kernel) rfl rfl hR
def f_J1_charAt_3b067 (p0 : Nat) (p1 : Int32) (M : Mem) : Option (Int32 × Mem) :=
  bd (f_J0_checkIndex_df160 p1 (nI (lenS.getD p0 0)) M) fun _ M =>
  sl (fun j => (bytS.getD p0 []).getD j 0) p1 (lenS.getD p0 0) fun x2 =>
  some ((Int32.toUInt32 (x2 &&& 255) % 65536).toInt32, M)
def rm_J1_charAt_3b067 : Room := { frames := 2, cells := 0, slots := 0, locals := 43 }
set_option maxHeartbeats 4000000 in
set_option maxRecDepth 100000 in
theorem c_J1_charAt_3b067 {l : Launch} {D : va_G} {K : Ks} {ad : Nat → Nat} {A : Nat → Prop} {tC tA tP : Nat} {kK kV : Nat → Nat} (hG : Gok G1 ad A) {p0 : Nat} {p1 : Int32} (h0 : p0 < 6) {M : Mem} {r : Int32} {M' : Mem} (hf : f_J1_charAt_3b067 p0 p1 M = some (r, M')) : Ct l (E1 A tC tA tP kK kV) D K G1 ad A yJ1_charAt_3b067 (ws_of yJ1_charAt_3b067 cJ1_charAt_3b067 2 (some .char)) rm_J1_charAt_3b067 .char [.ref (kV p0), .int p1] M r M' := by
  have hst : Est A (E1 A tC tA tP kK kV) := est1
  refine Ct.ofW (by decide) (Nat.le_of_ble_eq_true rfl) ?_
  intro p e s m args below meth c Q H locs ls S hK hE hP hS hl hret
  have hx := S.1
  have hb := S.2.1
  have hown := S.2.2.2.1
  have ht := S.2.2.2.2
  have hl : lv_has ls 2 [(0, .ref (kV p0)), (1, .int p1)] := hl
  unfold f_J1_charAt_3b067 at hf
  refine lv_iload_n hx hb dJ1_charAt_3b067_0 rfl (lv_at hl 1 rfl) ?_
  refine lv_aload_n hx hb dJ1_charAt_3b067_1 rfl (lv_at hl 0 rfl) ?_
  refine va_tlen (v := (nI (lenS.getD p0 0))) hx hb (hE.2.2.2.2.2.2.2.2.1.1 p0 h0).2.2.2 hS rfl dJ1_charAt_3b067_2 ?_
  refine r_callSv (As := [.int p1, .int (nI (lenS.getD p0 0))]) (rest := []) S hK hE hst hP hS (cw_J1_9 ht ⟨Nat.le_of_ble_eq_true rfl, Nat.le_of_ble_eq_true rfl⟩) rfl hl.1 rfl (Nat.le_of_ble_eq_true rfl) dJ1_charAt_3b067_3 z2 (fun _ _ h => c_J0_checkIndex_df160 hG  h) hf (fun x1 M H locs hP hS hf => ?_)
  refine lv_aload_n hx hb dJ1_charAt_3b067_6 rfl (lv_at hl 0 rfl) ?_
  refine lv_iload_n hx hb dJ1_charAt_3b067_7 rfl (lv_at hl 1 rfl) ?_
  refine r_slb S hS (hE.2.2.2.2.2.2.2.2.1.1 p0 h0).2.2.2 dJ1_charAt_3b067_8 hf (fun x2 hf => ?_)
  refine lv_sipush (v := 255) hx hb dJ1_charAt_3b067_9 (by decide) ?_
  refine lv_iand hx hb dJ1_charAt_3b067_12 ?_
  refine lv_i2c (v := (Int32.toUInt32 (x2 &&& 255) % 65536).toInt32) hx hb dJ1_charAt_3b067_13 rfl ?_
  exact hret _ _ _ _ _ _ dJ1_charAt_3b067_14 hP hS (pk_nc _) hf
theorem cw_J0_492 {R : Room} {s : State} {args : Array Value} (ht : ∀ w ∈ Tw, w.before args s = true) (hR : rm_J0_isLatin1_aae02.frames + 1 ≤ R.frames ∧ 8 + (1 + 11) + rm_J0_isLatin1_aae02.locals ≤ R.locals) : CallW R s args RJ0 RJ0 492 yJ0_isLatin1_aae02 cJ0_isLatin1_aae02 1 (some .boolean) (ws_of yJ0_isLatin1_aae02 cJ0_isLatin1_aae02 1 (some .boolean)) rm_J0_isLatin1_aae02 0 0 0 := cw_V 0 ht k_584 k_585 k_586 k_75 k_587 (by decide +kernel) rfl rfl hR
theorem cw_J0_495 {R : Room} {s : State} {args : Array Value} (ht : ∀ w ∈ Tw, w.before args s = true) (hR : rm_J1_charAt_3b067.frames + 1 ≤ R.frames ∧ 8 + (2 + 11) + rm_J1_charAt_3b067.locals ≤ R.locals) : CallB R s args RJ0 495 yJ1_charAt_3b067 cJ1_charAt_3b067 2 (some .char) (ws_of yJ1_charAt_3b067 cJ1_charAt_3b067 2 (some .char)) rm_J1_charAt_3b067 0 0 2 ∧ (Cond.static yJ1_charAt_3b067).before args s = true := cw_S 2 ht k_588 k_589 k_76 k_590 (by decide +kernel) rfl rfl hR
def f_J0_charAt_5068e (o : Nat) (p1 : Int32) (M : Mem) : Option (Int32 × Mem) :=
  bd (f_J0_isLatin1_aae02 o M) fun x1 M =>
  if x1 = 0 then
    none
  else
    bd (f_J1_charAt_3b067 o p1 M) fun x2 M =>
    some (x2, M)
def rm_J0_charAt_5068e : Room := { frames := 3, cells := 0, slots := 0, locals := 64 }
set_option maxHeartbeats 4000000 in
set_option maxRecDepth 100000 in
theorem c_J0_charAt_5068e {l : Launch} {D : va_G} {K : Ks} {ad : Nat → Nat} {A : Nat → Prop} {tC tA tP : Nat} {kK kV : Nat → Nat} (hG : Gok G1 ad A) {o : Nat} {p1 : Int32} (h0 : o < 6) {M : Mem} {r : Int32} {M' : Mem} (hf : f_J0_charAt_5068e o p1 M = some (r, M')) : Ct l (E1 A tC tA tP kK kV) D K G1 ad A yJ0_charAt_5068e (ws_of yJ0_charAt_5068e cJ0_charAt_5068e 2 (some .char)) rm_J0_charAt_5068e .char [.ref (kK o), .int p1] M r M' := by
  have hst : Est A (E1 A tC tA tP kK kV) := est1
  refine Ct.ofW (by decide) (Nat.le_of_ble_eq_true rfl) ?_
  intro p e s m args below meth c Q H locs ls S hK hE hP hS hl hret
  have hx := S.1
  have hb := S.2.1
  have hown := S.2.2.2.1
  have ht := S.2.2.2.2
  have hl : lv_has ls 2 [(0, .ref (kK o)), (1, .int p1)] := hl
  unfold f_J0_charAt_5068e at hf
  refine lv_aload_n hx hb dJ0_charAt_5068e_0 rfl (lv_at hl 0 rfl) ?_
  refine r_callK (As := []) (rest := []) S hK hE hst hP hS h0 (cw_J0_492 ht ⟨Nat.le_of_ble_eq_true rfl, Nat.le_of_ble_eq_true rfl⟩) rfl hl.1 rfl (Nat.le_of_ble_eq_true rfl) dJ0_charAt_5068e_1 z2 (fun _ _ h => c_J0_isLatin1_aae02 hG  h0 h) hf (fun x1 M H locs hP hS bx1 hf => ?_)
  refine r_if_eq (tgt := 16) S dJ0_charAt_5068e_4 (by decide) hf (fun hf => ?_) (fun hf => ?_)
  · refine lv_aload_n hx hb dJ0_charAt_5068e_16 rfl (lv_at hl 0 rfl) ?_
    refine vk_getf hx hb (hE.2.2.2.2.2.2.2.2.1.1 o h0).2.2.1 hS hown (ht _ k_1667) (fun _ h => h) dJ0_charAt_5068e_17 ?_
    refine lv_iload_n hx hb dJ0_charAt_5068e_20 rfl (lv_at hl 1 rfl) ?_
    exact nomatch hf
  · refine lv_aload_n hx hb dJ0_charAt_5068e_7 rfl (lv_at hl 0 rfl) ?_
    refine vk_getf hx hb (hE.2.2.2.2.2.2.2.2.1.1 o h0).2.2.1 hS hown (ht _ k_1667) (fun _ h => h) dJ0_charAt_5068e_8 ?_
    refine lv_iload_n hx hb dJ0_charAt_5068e_11 rfl (lv_at hl 1 rfl) ?_
    refine r_callS (As := [.ref (kV o), .int p1]) (rest := []) S hK hE hst hP hS (cw_J0_495 ht ⟨Nat.le_of_ble_eq_true rfl, Nat.le_of_ble_eq_true rfl⟩) rfl hl.1 rfl (Nat.le_of_ble_eq_true rfl) dJ0_charAt_5068e_12 z2 (fun _ _ h => c_J1_charAt_3b067 hG  h0 h) hf (fun x2 M H locs hP hS bx2 hf => ?_)
    exact hret _ _ _ _ _ _ dJ0_charAt_5068e_15 hP hS bx2 hf
theorem cw_X7_118 {R : Room} {s : State} {args : Array Value} (ht : ∀ w ∈ Tw, w.before args s = true) (hR : rm_J0_length_8abf5.frames + 1 ≤ R.frames ∧ 8 + (1 + 11) + rm_J0_length_8abf5.locals ≤ R.locals) : CallW R s args RX7 RJ0 118 yJ0_length_8abf5 cJ0_length_8abf5 1 (some .int) (ws_of yJ0_length_8abf5 cJ0_length_8abf5 1 (some .int)) rm_J0_length_8abf5 0 0 0 := cw_V 0 ht k_570 k_571 k_572 k_75 k_573 (by decide +kernel) rfl rfl hR
theorem cw_X7_121 {R : Room} {s : State} {args : Array Value} (ht : ∀ w ∈ Tw, w.before args s = true) (hR : rm_J0_charAt_5068e.frames + 1 ≤ R.frames ∧ 8 + (2 + 11) + rm_J0_charAt_5068e.locals ≤ R.locals) : CallW R s args RX7 RJ0 121 yJ0_charAt_5068e cJ0_charAt_5068e 2 (some .char) (ws_of yJ0_charAt_5068e cJ0_charAt_5068e 2 (some .char)) rm_J0_charAt_5068e 0 0 1 := cw_V 1 ht k_580 k_581 k_582 k_75 k_583 (by decide +kernel) rfl rfl hR
def f_X7_isWordHere (o : Nat) (p1 : Nat) (M : Mem) : Option (Int32 × Mem) :=
  vv (M o 10) fun x1 =>
  if x1 = 1 then
    vv (M o 9) fun x2 =>
    vv (M o 8) fun x3 =>
    bd (f_J0_length_8abf5 p1 M) fun x4 M =>
    if (x2 - x3) = x4 then
      it1 (fun rc6 (v5 : Int32) M =>
        bd (f_J0_length_8abf5 p1 M) fun x7 M =>
        if v5 < x7 then
          vv (grf G1 o 0) fun x8 =>
          vv (M o 8) fun x9 =>
          ld M x8 (x9 + v5) 96 fun x10 =>
          bd (f_J0_charAt_5068e p1 v5 M) fun x11 M =>
          if x10 = x11 then
            rc6 (v5 + 1) M
          else
            some (0, M)
        else
          some (1, M)
      ) fuel 0 M
    else
      some (0, M)
  else
    some (0, M)
def rm_X7_isWordHere : Room := { frames := 4, cells := 0, slots := 0, locals := 85 }
set_option maxHeartbeats 4000000 in
set_option maxRecDepth 100000 in
theorem c_X7_isWordHere {l : Launch} {D : va_G} {K : Ks} {ad : Nat → Nat} {A : Nat → Prop} {tC tA tP : Nat} {kK kV : Nat → Nat} (hG : Gok G1 ad A) {o : Nat} {p1 : Nat} (h0 : gcl G1 o = 7) (h1 : p1 < 6) {M : Mem} {r : Int32} {M' : Mem} (hf : f_X7_isWordHere o p1 M = some (r, M')) : Ct l (E1 A tC tA tP kK kV) D K G1 ad A yX7_isWordHere (ws_of yX7_isWordHere cX7_isWordHere 3 (some .boolean)) rm_X7_isWordHere .boolean [.ref (ad o), .ref (kK p1)] M r M' := by
  have hst : Est A (E1 A tC tA tP kK kV) := est1
  refine Ct.ofW (by decide) (Nat.le_of_ble_eq_true rfl) ?_
  intro p e s m args below meth c Q H locs ls S hK hE hP hS hl hret
  have hx := S.1
  have hb := S.2.1
  have hown := S.2.2.2.1
  have ht := S.2.2.2.2
  have hl : lv_has ls 3 [(0, .ref (ad o)), (1, .ref (kK p1))] := hl
  unfold f_X7_isWordHere at hf
  refine lv_aload_n hx hb dX7_isWordHere_0 rfl (lv_at hl 0 rfl) ?_
  refine gf_X7_35 S hK hP h0 dX7_isWordHere_1 hf (fun x1 hf => ?_)
  refine lv_iconst (v := 1) hx hb dX7_isWordHere_4 (by decide) ?_
  refine r_icmp_ne (tgt := 24) S dX7_isWordHere_5 (by decide) hf (fun hf => ?_) (fun hf => ?_)
  · refine lv_iconst (v := 0) hx hb dX7_isWordHere_24 (by decide) ?_
    exact hret _ _ _ _ _ _ dX7_isWordHere_25 hP hS rfl hf
  · refine lv_aload_n hx hb dX7_isWordHere_8 rfl (lv_at hl 0 rfl) ?_
    refine gf_X7_32 S hK hP h0 dX7_isWordHere_9 hf (fun x2 hf => ?_)
    refine lv_aload_n hx hb dX7_isWordHere_12 rfl (lv_at hl 0 rfl) ?_
    refine gf_X7_48 S hK hP h0 dX7_isWordHere_13 hf (fun x3 hf => ?_)
    refine lv_isub hx hb dX7_isWordHere_16 ?_
    refine lv_aload_n hx hb dX7_isWordHere_17 rfl (lv_at hl 1 rfl) ?_
    refine r_callK (As := []) (rest := [.int (x2 - x3)]) S hK hE hst hP hS h1 (cw_X7_118 ht ⟨Nat.le_of_ble_eq_true rfl, Nat.le_of_ble_eq_true rfl⟩) rfl hl.1 rfl (Nat.le_of_ble_eq_true rfl) dX7_isWordHere_18 z2 (fun _ _ h => c_J0_length_8abf5 hG  h1 h) hf (fun x4 M H locs hP hS bx4 hf => ?_)
    refine r_icmp_eq (tgt := 26) S dX7_isWordHere_21 (by decide) hf (fun hf => ?_) (fun hf => ?_)
    · refine lv_iconst (v := 0) hx hb dX7_isWordHere_26 (by decide) ?_
      refine lv_istore_n (lv' := [(2, .int 0), (0, .ref (ad o)), (1, .ref (kK p1))]) hx hb dX7_isWordHere_27 rfl hl (by decide) rfl (fun ls hl => ?_)
      obtain ⟨F6, hF6, hf⟩ := it1_g hf
      have L6 : ∀ (n : Nat) (v5 : Int32) (M : Mem) (H : Heap) (locs : List Loc) (ls : Array Slot), lv_has ls 3 [(0, .ref (ad o)), (1, .ref (kK p1)), (2, .int v5)] → va_P D classes (gws K G1 ad M) H → va_S A s.heap H locs → it1 F6 n v5 M = some (r, M') → W p l e rm_X7_isWordHere s m args below meth c H locs 0 0 Q (F0 m 28 ls []) := by
        intro n
        induction n with
        | zero => intro v5 M H locs ls hl hP hS hf; exact nomatch hf
        | succ n ih6 =>
          intro v5 M H locs ls hl hP hS hf
          obtain ⟨rc6, hrc6, hf⟩ := it1_w hf
          rw [← hrc6] at ih6
          rw [hF6] at hf
          refine lv_iload_n hx hb dX7_isWordHere_28 rfl (lv_at hl 2 rfl) ?_
          refine lv_aload_n hx hb dX7_isWordHere_29 rfl (lv_at hl 1 rfl) ?_
          refine r_callK (As := []) (rest := [.int v5]) S hK hE hst hP hS h1 (cw_X7_118 ht ⟨Nat.le_of_ble_eq_true rfl, Nat.le_of_ble_eq_true rfl⟩) rfl hl.1 rfl (Nat.le_of_ble_eq_true rfl) dX7_isWordHere_30 z2 (fun _ _ h => c_J0_length_8abf5 hG  h1 h) hf (fun x7 M H locs hP hS bx7 hf => ?_)
          refine r_icmp_ge (tgt := 63) S dX7_isWordHere_33 (by decide) hf (fun hf => ?_) (fun hf => ?_)
          · refine lv_iconst (v := 1) hx hb dX7_isWordHere_63 (by decide) ?_
            exact hret _ _ _ _ _ _ dX7_isWordHere_64 hP hS rfl hf
          · refine lv_aload_n hx hb dX7_isWordHere_36 rfl (lv_at hl 0 rfl) ?_
            refine gf_X7_9 S hK hP h0 dX7_isWordHere_37 hf (fun x8 hx8 hf => ?_)
            refine lv_aload_n hx hb dX7_isWordHere_40 rfl (lv_at hl 0 rfl) ?_
            refine gf_X7_48 S hK hP h0 dX7_isWordHere_41 hf (fun x9 hf => ?_)
            refine lv_iload_n hx hb dX7_isWordHere_44 rfl (lv_at hl 2 rfl) ?_
            refine lv_iadd hx hb dX7_isWordHere_45 ?_
            refine r_bald S hK hP hx8 dX7_isWordHere_46 hf (fun x10 hf => ?_)
            refine lv_aload_n hx hb dX7_isWordHere_47 rfl (lv_at hl 1 rfl) ?_
            refine lv_iload_n hx hb dX7_isWordHere_48 rfl (lv_at hl 2 rfl) ?_
            refine r_callK (As := [.int v5]) (rest := [.int x10]) S hK hE hst hP hS h1 (cw_X7_121 ht ⟨Nat.le_of_ble_eq_true rfl, Nat.le_of_ble_eq_true rfl⟩) rfl hl.1 rfl (Nat.le_of_ble_eq_true rfl) dX7_isWordHere_49 z2 (fun _ _ h => c_J0_charAt_5068e hG  h1 h) hf (fun x11 M H locs hP hS bx11 hf => ?_)
            refine r_icmp_eq (tgt := 57) S dX7_isWordHere_52 (by decide) hf (fun hf => ?_) (fun hf => ?_)
            · refine lv_iinc (v := (v5 + 1)) (lv' := [(2, .int (v5 + 1)), (0, .ref (ad o)), (1, .ref (kK p1))]) hx hb dX7_isWordHere_57 hl (k := 2) rfl rfl (by decide) rfl (fun ls hl => ?_)
              refine lv_goto (tgt := 28) hx hb dX7_isWordHere_60 (by decide) ?_
              exact ih6 (v5 + 1) M H locs ls (lv_sub hl [1, 2, 0] rfl) hP hS hf
            · refine lv_iconst (v := 0) hx hb dX7_isWordHere_55 (by decide) ?_
              exact hret _ _ _ _ _ _ dX7_isWordHere_56 hP hS rfl hf
      exact L6 _ 0 M H locs ls (lv_sub hl [1, 2, 0] rfl) hP hS hf
    · refine lv_iconst (v := 0) hx hb dX7_isWordHere_24 (by decide) ?_
      exact hret _ _ _ _ _ _ dX7_isWordHere_25 hP hS rfl hf
theorem cw_X7_110 {R : Room} {s : State} {args : Array Value} (ht : ∀ w ∈ Tw, w.before args s = true) (hR : rm_X7_isWordHere.frames + 1 ≤ R.frames ∧ 8 + (3 + 11) + rm_X7_isWordHere.locals ≤ R.locals) : CallW R s args RX7 RX7 110 yX7_isWordHere cX7_isWordHere 3 (some .boolean) (ws_of yX7_isWordHere cX7_isWordHere 3 (some .boolean)) rm_X7_isWordHere 0 0 1 := cw_V 1 ht k_566 k_568 k_5 k_70 k_569 (by decide +kernel) rfl rfl hR
def f_X7_keyHere (o : Nat) (M : Mem) : Option (Int32 × Mem) :=
  bd (f_X7_isWordHere o 0 M) fun x1 M =>
  if x1 = 0 then
    bd (f_X7_isWordHere o 1 M) fun x2 M =>
    if x2 = 0 then
      bd (f_X7_isWordHere o 2 M) fun x3 M =>
      if x3 = 0 then
        some ((-1), M)
      else
        some (2, M)
    else
      some (1, M)
  else
    some (0, M)
def rm_X7_keyHere : Room := { frames := 5, cells := 0, slots := 0, locals := 107 }
set_option maxHeartbeats 4000000 in
set_option maxRecDepth 100000 in
theorem c_X7_keyHere {l : Launch} {D : va_G} {K : Ks} {ad : Nat → Nat} {A : Nat → Prop} {tC tA tP : Nat} {kK kV : Nat → Nat} (hG : Gok G1 ad A) {o : Nat} (h0 : gcl G1 o = 7) {M : Mem} {r : Int32} {M' : Mem} (hf : f_X7_keyHere o M = some (r, M')) : Ct l (E1 A tC tA tP kK kV) D K G1 ad A yX7_keyHere (ws_of yX7_keyHere cX7_keyHere 1 (some .int)) rm_X7_keyHere .int [.ref (ad o)] M r M' := by
  have hst : Est A (E1 A tC tA tP kK kV) := est1
  refine Ct.ofW (by decide) (Nat.le_of_ble_eq_true rfl) ?_
  intro p e s m args below meth c Q H locs ls S hK hE hP hS hl hret
  have hx := S.1
  have hb := S.2.1
  have hown := S.2.2.2.1
  have ht := S.2.2.2.2
  have hl : lv_has ls 1 [(0, .ref (ad o))] := hl
  unfold f_X7_keyHere at hf
  refine lv_aload_n hx hb dX7_keyHere_0 rfl (lv_at hl 0 rfl) ?_
  refine va_ldcS (tx := "working") (q := kK 0) hx hb hown hE.2.2.2.2.2.2.2.2.2.2.1 dX7_keyHere_1 ?_
  refine r_callV (As := [.ref (kK 0)]) (rest := []) S hK hE hst hP hS h0 (by decide) rfl (cw_X7_110 ht ⟨Nat.le_of_ble_eq_true rfl, Nat.le_of_ble_eq_true rfl⟩) rfl hl.1 rfl (Nat.le_of_ble_eq_true rfl) dX7_keyHere_3 z2 (fun _ _ h => c_X7_isWordHere hG  h0 (by decide) h) hf (fun x1 M H locs hP hS bx1 hf => ?_)
  refine r_if_eq (tgt := 11) S dX7_keyHere_6 (by decide) hf (fun hf => ?_) (fun hf => ?_)
  · refine lv_aload_n hx hb dX7_keyHere_11 rfl (lv_at hl 0 rfl) ?_
    refine va_ldcS (tx := "spread") (q := kK 1) hx hb hown hE.2.2.2.2.2.2.2.2.2.2.2.1 dX7_keyHere_12 ?_
    refine r_callV (As := [.ref (kK 1)]) (rest := []) S hK hE hst hP hS h0 (by decide) rfl (cw_X7_110 ht ⟨Nat.le_of_ble_eq_true rfl, Nat.le_of_ble_eq_true rfl⟩) rfl hl.1 rfl (Nat.le_of_ble_eq_true rfl) dX7_keyHere_14 z2 (fun _ _ h => c_X7_isWordHere hG  h0 (by decide) h) hf (fun x2 M H locs hP hS bx2 hf => ?_)
    refine r_if_eq (tgt := 22) S dX7_keyHere_17 (by decide) hf (fun hf => ?_) (fun hf => ?_)
    · refine lv_aload_n hx hb dX7_keyHere_22 rfl (lv_at hl 0 rfl) ?_
      refine va_ldcS (tx := "odd") (q := kK 2) hx hb hown hE.2.2.2.2.2.2.2.2.2.2.2.2.1 dX7_keyHere_23 ?_
      refine r_callV (As := [.ref (kK 2)]) (rest := []) S hK hE hst hP hS h0 (by decide) rfl (cw_X7_110 ht ⟨Nat.le_of_ble_eq_true rfl, Nat.le_of_ble_eq_true rfl⟩) rfl hl.1 rfl (Nat.le_of_ble_eq_true rfl) dX7_keyHere_25 z2 (fun _ _ h => c_X7_isWordHere hG  h0 (by decide) h) hf (fun x3 M H locs hP hS bx3 hf => ?_)
      refine r_if_eq (tgt := 35) S dX7_keyHere_28 (by decide) hf (fun hf => ?_) (fun hf => ?_)
      · refine lv_iconst (v := (-1)) hx hb dX7_keyHere_35 (by decide) ?_
        exact hret _ _ _ _ _ _ dX7_keyHere_36 hP hS rfl hf
      · refine lv_iconst (v := 2) hx hb dX7_keyHere_31 (by decide) ?_
        refine lv_goto (tgt := 36) hx hb dX7_keyHere_32 (by decide) ?_
        exact hret _ _ _ _ _ _ dX7_keyHere_36 hP hS rfl hf
    · refine lv_iconst (v := 1) hx hb dX7_keyHere_20 (by decide) ?_
      exact hret _ _ _ _ _ _ dX7_keyHere_21 hP hS rfl hf
  · refine lv_iconst (v := 0) hx hb dX7_keyHere_9 (by decide) ?_
    exact hret _ _ _ _ _ _ dX7_keyHere_10 hP hS rfl hf
def f_X7_isNumberHere (o : Nat) (M : Mem) : Option (Int32 × Mem) :=
  vv (M o 10) fun x1 =>
  if x1 = 2 then
    vv (M o 9) fun x2 =>
    vv (M o 8) fun x3 =>
    if 4 < (x2 - x3) then
      some (0, M)
    else
      some (1, M)
  else
    some (0, M)
def rm_X7_isNumberHere : Room := { frames := 0, cells := 0, slots := 0, locals := 0 }
set_option maxHeartbeats 4000000 in
set_option maxRecDepth 100000 in
theorem c_X7_isNumberHere {l : Launch} {D : va_G} {K : Ks} {ad : Nat → Nat} {A : Nat → Prop} {tC tA tP : Nat} {kK kV : Nat → Nat} (hG : Gok G1 ad A) {o : Nat} (h0 : gcl G1 o = 7) {M : Mem} {r : Int32} {M' : Mem} (hf : f_X7_isNumberHere o M = some (r, M')) : Ct l (E1 A tC tA tP kK kV) D K G1 ad A yX7_isNumberHere (ws_of yX7_isNumberHere cX7_isNumberHere 1 (some .boolean)) rm_X7_isNumberHere .boolean [.ref (ad o)] M r M' := by
  have hst : Est A (E1 A tC tA tP kK kV) := est1
  refine Ct.ofW (by decide) (Nat.le_of_ble_eq_true rfl) ?_
  intro p e s m args below meth c Q H locs ls S hK hE hP hS hl hret
  have hx := S.1
  have hb := S.2.1
  have hown := S.2.2.2.1
  have ht := S.2.2.2.2
  have hl : lv_has ls 1 [(0, .ref (ad o))] := hl
  unfold f_X7_isNumberHere at hf
  refine lv_aload_n hx hb dX7_isNumberHere_0 rfl (lv_at hl 0 rfl) ?_
  refine gf_X7_35 S hK hP h0 dX7_isNumberHere_1 hf (fun x1 hf => ?_)
  refine lv_iconst (v := 2) hx hb dX7_isNumberHere_4 (by decide) ?_
  refine r_icmp_ne (tgt := 25) S dX7_isNumberHere_5 (by decide) hf (fun hf => ?_) (fun hf => ?_)
  · refine lv_iconst (v := 0) hx hb dX7_isNumberHere_25 (by decide) ?_
    exact hret _ _ _ _ _ _ dX7_isNumberHere_26 hP hS rfl hf
  · refine lv_aload_n hx hb dX7_isNumberHere_8 rfl (lv_at hl 0 rfl) ?_
    refine gf_X7_32 S hK hP h0 dX7_isNumberHere_9 hf (fun x2 hf => ?_)
    refine lv_aload_n hx hb dX7_isNumberHere_12 rfl (lv_at hl 0 rfl) ?_
    refine gf_X7_48 S hK hP h0 dX7_isNumberHere_13 hf (fun x3 hf => ?_)
    refine lv_isub hx hb dX7_isNumberHere_16 ?_
    refine lv_iconst (v := 4) hx hb dX7_isNumberHere_17 (by decide) ?_
    refine r_icmp_gt (tgt := 25) S dX7_isNumberHere_18 (by decide) hf (fun hf => ?_) (fun hf => ?_)
    · refine lv_iconst (v := 0) hx hb dX7_isNumberHere_25 (by decide) ?_
      exact hret _ _ _ _ _ _ dX7_isNumberHere_26 hP hS rfl hf
    · refine lv_iconst (v := 1) hx hb dX7_isNumberHere_21 (by decide) ?_
      refine lv_goto (tgt := 26) hx hb dX7_isNumberHere_22 (by decide) ?_
      exact hret _ _ _ _ _ _ dX7_isNumberHere_26 hP hS rfl hf
def f_X7_numberHere (o : Nat) (M : Mem) : Option (Int32 × Mem) :=
  vv (M o 8) fun x1 =>
  it2 (fun rc4 (v2 : Int32) (v3 : Int32) M =>
    vv (M o 9) fun x5 =>
    if v3 < x5 then
      vv (M o 1) fun x6 =>
      if v3 < x6 then
        vv (grf G1 o 0) fun x7 =>
        ld M x7 v3 96 fun x8 =>
        vv (((v2 * 10) + x8) - 48) fun x9 =>
        rc4 x9 (v3 + 1) M
      else
        some (v2, M)
    else
      some (v2, M)
  ) fuel 0 x1 M
def rm_X7_numberHere : Room := { frames := 0, cells := 0, slots := 0, locals := 0 }
set_option maxHeartbeats 4000000 in
set_option maxRecDepth 100000 in
theorem c_X7_numberHere {l : Launch} {D : va_G} {K : Ks} {ad : Nat → Nat} {A : Nat → Prop} {tC tA tP : Nat} {kK kV : Nat → Nat} (hG : Gok G1 ad A) {o : Nat} (h0 : gcl G1 o = 7) {M : Mem} {r : Int32} {M' : Mem} (hf : f_X7_numberHere o M = some (r, M')) : Ct l (E1 A tC tA tP kK kV) D K G1 ad A yX7_numberHere (ws_of yX7_numberHere cX7_numberHere 3 (some .int)) rm_X7_numberHere .int [.ref (ad o)] M r M' := by
  have hst : Est A (E1 A tC tA tP kK kV) := est1
  refine Ct.ofW (by decide) (Nat.le_of_ble_eq_true rfl) ?_
  intro p e s m args below meth c Q H locs ls S hK hE hP hS hl hret
  have hx := S.1
  have hb := S.2.1
  have hown := S.2.2.2.1
  have ht := S.2.2.2.2
  have hl : lv_has ls 3 [(0, .ref (ad o))] := hl
  unfold f_X7_numberHere at hf
  refine lv_iconst (v := 0) hx hb dX7_numberHere_0 (by decide) ?_
  refine lv_istore_n (lv' := [(1, .int 0), (0, .ref (ad o))]) hx hb dX7_numberHere_1 rfl hl (by decide) rfl (fun ls hl => ?_)
  refine lv_aload_n hx hb dX7_numberHere_2 rfl (lv_at hl 1 rfl) ?_
  refine gf_X7_48 S hK hP h0 dX7_numberHere_3 hf (fun x1 hf => ?_)
  refine lv_istore_n (lv' := [(2, .int x1), (1, .int 0), (0, .ref (ad o))]) hx hb dX7_numberHere_6 rfl hl (by decide) rfl (fun ls hl => ?_)
  obtain ⟨F4, hF4, hf⟩ := it2_g hf
  have L4 : ∀ (n : Nat) (v2 : Int32) (v3 : Int32) (M : Mem) (H : Heap) (locs : List Loc) (ls : Array Slot), lv_has ls 3 [(0, .ref (ad o)), (1, .int v2), (2, .int v3)] → va_P D classes (gws K G1 ad M) H → va_S A s.heap H locs → it2 F4 n v2 v3 M = some (r, M') → W p l e rm_X7_numberHere s m args below meth c H locs 0 0 Q (F0 m 7 ls []) := by
    intro n
    induction n with
    | zero => intro v2 v3 M H locs ls hl hP hS hf; exact nomatch hf
    | succ n ih4 =>
      intro v2 v3 M H locs ls hl hP hS hf
      obtain ⟨rc4, hrc4, hf⟩ := it2_w hf
      rw [← hrc4] at ih4
      rw [hF4] at hf
      refine lv_iload_n hx hb dX7_numberHere_7 rfl (lv_at hl 2 rfl) ?_
      refine lv_aload_n hx hb dX7_numberHere_8 rfl (lv_at hl 0 rfl) ?_
      refine gf_X7_32 S hK hP h0 dX7_numberHere_9 hf (fun x5 hf => ?_)
      refine r_icmp_ge (tgt := 44) S dX7_numberHere_12 (by decide) hf (fun hf => ?_) (fun hf => ?_)
      · refine lv_iload_n hx hb dX7_numberHere_44 rfl (lv_at hl 1 rfl) ?_
        exact hret _ _ _ _ _ _ dX7_numberHere_45 hP hS rfl hf
      · refine lv_iload_n hx hb dX7_numberHere_15 rfl (lv_at hl 2 rfl) ?_
        refine lv_aload_n hx hb dX7_numberHere_16 rfl (lv_at hl 0 rfl) ?_
        refine gf_X7_19 S hK hP h0 dX7_numberHere_17 hf (fun x6 hf => ?_)
        refine r_icmp_ge (tgt := 44) S dX7_numberHere_20 (by decide) hf (fun hf => ?_) (fun hf => ?_)
        · refine lv_iload_n hx hb dX7_numberHere_44 rfl (lv_at hl 1 rfl) ?_
          exact hret _ _ _ _ _ _ dX7_numberHere_45 hP hS rfl hf
        · refine lv_iload_n hx hb dX7_numberHere_23 rfl (lv_at hl 1 rfl) ?_
          refine lv_bipush (v := 10) hx hb dX7_numberHere_24 (by decide) ?_
          refine lv_imul hx hb dX7_numberHere_26 ?_
          refine lv_aload_n hx hb dX7_numberHere_27 rfl (lv_at hl 0 rfl) ?_
          refine gf_X7_9 S hK hP h0 dX7_numberHere_28 hf (fun x7 hx7 hf => ?_)
          refine lv_iload_n hx hb dX7_numberHere_31 rfl (lv_at hl 2 rfl) ?_
          refine r_bald S hK hP hx7 dX7_numberHere_32 hf (fun x8 hf => ?_)
          refine lv_iadd hx hb dX7_numberHere_33 ?_
          refine lv_bipush (v := 48) hx hb dX7_numberHere_34 (by decide) ?_
          refine lv_isub hx hb dX7_numberHere_36 ?_
          refine r_vi hf (fun x9 hf => ?_)
          refine lv_istore_n (lv' := [(1, .int x9), (0, .ref (ad o)), (2, .int v3)]) hx hb dX7_numberHere_37 rfl hl (by decide) rfl (fun ls hl => ?_)
          refine lv_iinc (v := (v3 + 1)) (lv' := [(2, .int (v3 + 1)), (1, .int x9), (0, .ref (ad o))]) hx hb dX7_numberHere_38 hl (k := 2) rfl rfl (by decide) rfl (fun ls hl => ?_)
          refine lv_goto (tgt := 7) hx hb dX7_numberHere_41 (by decide) ?_
          exact ih4 x9 (v3 + 1) M H locs ls (lv_sub hl [2, 1, 0] rfl) hP hS hf
  exact L4 _ 0 x1 M H locs ls (lv_sub hl [2, 1, 0] rfl) hP hS hf
theorem cw_X7_38 {R : Room} {s : State} {args : Array Value} (ht : ∀ w ∈ Tw, w.before args s = true) (hR : rm_X7_forward.frames + 1 ≤ R.frames ∧ 8 + (3 + 11) + rm_X7_forward.locals ≤ R.locals) : CallW R s args RX7 RX7 38 yX7_forward cX7_forward 3 none (ws_of yX7_forward cX7_forward 3 none) rm_X7_forward 0 0 0 := cw_V 0 ht k_549 k_551 k_1 k_70 k_552 (by decide +kernel) rfl rfl hR
theorem cw_X7_51 {R : Room} {s : State} {args : Array Value} (ht : ∀ w ∈ Tw, w.before args s = true) (hR : rm_X7_keyHere.frames + 1 ≤ R.frames ∧ 8 + (1 + 11) + rm_X7_keyHere.locals ≤ R.locals) : CallW R s args RX7 RX7 51 yX7_keyHere cX7_keyHere 1 (some .int) (ws_of yX7_keyHere cX7_keyHere 1 (some .int)) rm_X7_keyHere 0 0 0 := cw_V 0 ht k_561 k_563 k_4 k_70 k_564 (by decide +kernel) rfl rfl hR
theorem cw_X7_62 {R : Room} {s : State} {args : Array Value} (ht : ∀ w ∈ Tw, w.before args s = true) (hR : rm_X7_isNumberHere.frames + 1 ≤ R.frames ∧ 8 + (1 + 11) + rm_X7_isNumberHere.locals ≤ R.locals) : CallW R s args RX7 RX7 62 yX7_isNumberHere cX7_isNumberHere 1 (some .boolean) (ws_of yX7_isNumberHere cX7_isNumberHere 1 (some .boolean)) rm_X7_isNumberHere 0 0 0 := cw_V 0 ht k_621 k_623 k_6 k_70 k_624 (by decide +kernel) rfl rfl hR
theorem cw_X7_66 {R : Room} {s : State} {args : Array Value} (ht : ∀ w ∈ Tw, w.before args s = true) (hR : rm_X7_numberHere.frames + 1 ≤ R.frames ∧ 8 + (3 + 11) + rm_X7_numberHere.locals ≤ R.locals) : CallW R s args RX7 RX7 66 yX7_numberHere cX7_numberHere 3 (some .int) (ws_of yX7_numberHere cX7_numberHere 3 (some .int)) rm_X7_numberHere 0 0 0 := cw_V 0 ht k_625 k_627 k_7 k_70 k_628 (by decide +kernel) rfl rfl hR
section
variable {p : Program} {l : Launch} {e : Env} {R : Room} {s : State} {m : MethodId} {args : Array Value} {below : List Frame} {meth : Method} {c : Code} {H : Heap} {locs : List Loc} {cells slots : Nat} {Q : State → Prop} {cc : ByteArray} {pc : Nat} {ls : Array Slot} {rest : List Value} {nL : Nat} {D : va_G} {K : Ks} {ad : Nat → Nat} {A : Nat → Prop} {M : Mem} {β : Type} {z : β}
theorem gf_X7_55 (S : CallFix p m c cc nL s args Tw RX7) (hK : va_K D classes (gty K) s) (hP : va_P D classes (gws K G1 ad M) H) {a : Nat} {kk : Int32 → Option β} (ha : gcl G1 a = 7) (hdg : decode cc pc = .ok (.getfield 55, 3)) (hf : vv (M a 3) kk = some z) (w : ∀ x, kk x = some z → W p l e R s m args below meth c H locs cells slots Q (F0 m (pc + 3) ls (.int x :: rest))) : W p l e R s m args below meth c H locs cells slots Q (F0 m pc ls (.ref (ad a) :: rest)) := r_geti S hK hP (T := TX7) inX7 rfl (by decide) (by decide) ha (sf_X7_3 ha) k_289 hdg hf w
end
section
variable {p : Program} {l : Launch} {e : Env} {R : Room} {s : State} {m : MethodId} {args : Array Value} {below : List Frame} {meth : Method} {c : Code} {H : Heap} {locs : List Loc} {cells slots : Nat} {Q : State → Prop} {cc : ByteArray} {pc : Nat} {ls : Array Slot} {rest : List Value} {nL : Nat} {D : va_G} {K : Ks} {ad : Nat → Nat} {A : Nat → Prop} {M : Mem} {β : Type} {z : β}
theorem pf_X7_23 (S : CallFix p m c cc nL s args Tw RX7) (hK : va_K D classes (gty K) s) (hG : Gok G1 ad A) (hP : va_P D classes (gws K G1 ad M) H) (hS : va_S A s.heap H locs) {a : Nat} {v : Int32} {kk : Mem → Option β} (ha : gcl G1 a = 7) (hdg : decode cc pc = .ok (.putfield 23, 3)) (hf : mm (up M a 2 v) kk = some z) (w : ∀ M H locs, va_P D classes (gws K G1 ad M) H → va_S A s.heap H locs → kk M = some z → W p l e R s m args below meth c H locs cells slots Q (F0 m (pc + 3) ls rest)) : W p l e R s m args below meth c H locs cells slots Q (F0 m pc ls (.int v :: .ref (ad a) :: rest)) := r_putt S hK hG hP hS (k := 2) (T := TX7) inX7 rfl (by decide) tyX7 tyX7_ok nmX7 (by decide) rfl rfl rfl ha (sf_X7_2 ha) k_286 hdg hf w
end
section
variable {p : Program} {l : Launch} {e : Env} {R : Room} {s : State} {m : MethodId} {args : Array Value} {below : List Frame} {meth : Method} {c : Code} {H : Heap} {locs : List Loc} {cells slots : Nat} {Q : State → Prop} {cc : ByteArray} {pc : Nat} {ls : Array Slot} {rest : List Value} {nL : Nat} {D : va_G} {K : Ks} {ad : Nat → Nat} {A : Nat → Prop} {M : Mem} {β : Type} {z : β}
theorem pf_X7_55 (S : CallFix p m c cc nL s args Tw RX7) (hK : va_K D classes (gty K) s) (hG : Gok G1 ad A) (hP : va_P D classes (gws K G1 ad M) H) (hS : va_S A s.heap H locs) {a : Nat} {v : Int32} {kk : Mem → Option β} (ha : gcl G1 a = 7) (hdg : decode cc pc = .ok (.putfield 55, 3)) (hf : mm (up M a 3 v) kk = some z) (w : ∀ M H locs, va_P D classes (gws K G1 ad M) H → va_S A s.heap H locs → kk M = some z → W p l e R s m args below meth c H locs cells slots Q (F0 m (pc + 3) ls rest)) : W p l e R s m args below meth c H locs cells slots Q (F0 m pc ls (.int v :: .ref (ad a) :: rest)) := r_putt S hK hG hP hS (k := 3) (T := TX7) inX7 rfl (by decide) tyX7 tyX7_ok nmX7 (by decide) rfl rfl rfl ha (sf_X7_3 ha) k_289 hdg hf w
end
section
variable {p : Program} {l : Launch} {e : Env} {R : Room} {s : State} {m : MethodId} {args : Array Value} {below : List Frame} {meth : Method} {c : Code} {H : Heap} {locs : List Loc} {cells slots : Nat} {Q : State → Prop} {cc : ByteArray} {pc : Nat} {ls : Array Slot} {rest : List Value} {nL : Nat} {D : va_G} {K : Ks} {ad : Nat → Nat} {A : Nat → Prop} {M : Mem} {β : Type} {z : β}
theorem pf_X7_59 (S : CallFix p m c cc nL s args Tw RX7) (hK : va_K D classes (gty K) s) (hG : Gok G1 ad A) (hP : va_P D classes (gws K G1 ad M) H) (hS : va_S A s.heap H locs) {a : Nat} {v : Int32} {kk : Mem → Option β} (ha : gcl G1 a = 7) (hdg : decode cc pc = .ok (.putfield 59, 3)) (hf : mm (up M a 4 v) kk = some z) (w : ∀ M H locs, va_P D classes (gws K G1 ad M) H → va_S A s.heap H locs → kk M = some z → W p l e R s m args below meth c H locs cells slots Q (F0 m (pc + 3) ls rest)) : W p l e R s m args below meth c H locs cells slots Q (F0 m pc ls (.int v :: .ref (ad a) :: rest)) := r_putt S hK hG hP hS (k := 4) (T := TX7) inX7 rfl (by decide) tyX7 tyX7_ok nmX7 (by decide) rfl rfl rfl ha (sf_X7_4 ha) k_291 hdg hf w
end
def f_X7_readHead (o : Nat) (M : Mem) : Option (Int32 × Mem) :=
  bd (f_X7_keyHere o M) fun x1 M =>
  mm (up M o 3 x1) fun M =>
  mm (up M o 4 (-1000000005)) fun M =>
  vv (M o 3) fun x2 =>
  if x2 < 0 then
    vv (M o 8) fun x11 =>
    mm (up M o 2 x11) fun M =>
    some (0, M)
  else
    bd (f_X7_forward o M) fun _ M =>
    vv (M o 3) fun x4 =>
    if x4 = 0 then
      bd (f_X7_isNumberHere o M) fun x5 M =>
      jn (fun (M : Mem) =>
        vv (M o 8) fun x7 =>
        mm (up M o 2 x7) fun M =>
        some (0, M)
      ) fun k6 =>
      if x5 = 0 then
        k6 M
      else
        bd (f_X7_numberHere o M) fun x8 M =>
        if x8 < 12 then
          bd (f_X7_numberHere o M) fun x9 M =>
          mm (up M o 4 x9) fun M =>
          bd (f_X7_forward o M) fun _ M =>
          some (0, M)
        else
          k6 M
    else
      some (0, M)
def rm_X7_readHead : Room := { frames := 6, cells := 0, slots := 0, locals := 127 }
set_option maxHeartbeats 4000000 in
set_option maxRecDepth 100000 in
theorem c_X7_readHead {l : Launch} {D : va_G} {K : Ks} {ad : Nat → Nat} {A : Nat → Prop} {tC tA tP : Nat} {kK kV : Nat → Nat} (hG : Gok G1 ad A) {o : Nat} (h0 : gcl G1 o = 7) {M : Mem} {r : Int32} {M' : Mem} (hf : f_X7_readHead o M = some (r, M')) : Cv l (E1 A tC tA tP kK kV) D K G1 ad A yX7_readHead (ws_of yX7_readHead cX7_readHead 1 none) rm_X7_readHead [.ref (ad o)] M M' := by
  have hst : Est A (E1 A tC tA tP kK kV) := est1
  refine Cv.ofW (r := r) (by decide) (Nat.le_of_ble_eq_true rfl) ?_
  intro p e s m args below meth c Q H locs ls S hK hE hP hS hl hret
  have hx := S.1
  have hb := S.2.1
  have hown := S.2.2.2.1
  have ht := S.2.2.2.2
  have hl : lv_has ls 1 [(0, .ref (ad o))] := hl
  unfold f_X7_readHead at hf
  refine lv_aload_n hx hb dX7_readHead_0 rfl (lv_at hl 0 rfl) ?_
  refine lv_aload_n hx hb dX7_readHead_1 rfl (lv_at hl 0 rfl) ?_
  refine r_callV (As := []) (rest := [.ref (ad o)]) S hK hE hst hP hS h0 (by decide) rfl (cw_X7_51 ht ⟨Nat.le_of_ble_eq_true rfl, Nat.le_of_ble_eq_true rfl⟩) rfl hl.1 rfl (Nat.le_of_ble_eq_true rfl) dX7_readHead_2 z2 (fun _ _ h => c_X7_keyHere hG  h0 h) hf (fun x1 M H locs hP hS bx1 hf => ?_)
  refine pf_X7_55 S hK hG hP hS h0 dX7_readHead_5 hf (fun M H locs hP hS hf => ?_)
  refine lv_aload_n hx hb dX7_readHead_8 rfl (lv_at hl 0 rfl) ?_
  refine lv_ldc (v := (-1000000005)) hx hb hown (ht _ k_620) dX7_readHead_9 ?_
  refine pf_X7_59 S hK hG hP hS h0 dX7_readHead_11 hf (fun M H locs hP hS hf => ?_)
  refine lv_aload_n hx hb dX7_readHead_14 rfl (lv_at hl 0 rfl) ?_
  refine gf_X7_55 S hK hP h0 dX7_readHead_15 hf (fun x2 hf => ?_)
  refine r_if_ge (tgt := 30) S dX7_readHead_18 (by decide) hf (fun hf => ?_) (fun hf => ?_)
  · refine lv_aload_n hx hb dX7_readHead_30 rfl (lv_at hl 0 rfl) ?_
    refine r_callVv (As := []) (rest := []) S hK hE hst hP hS h0 (by decide) rfl (cw_X7_38 ht ⟨Nat.le_of_ble_eq_true rfl, Nat.le_of_ble_eq_true rfl⟩) rfl hl.1 rfl (Nat.le_of_ble_eq_true rfl) dX7_readHead_31 z2 (fun _ _ h => c_X7_forward hG  h0 h) hf (fun x3 M H locs hP hS hf => ?_)
    refine lv_aload_n hx hb dX7_readHead_34 rfl (lv_at hl 0 rfl) ?_
    refine gf_X7_55 S hK hP h0 dX7_readHead_35 hf (fun x4 hf => ?_)
    refine r_if_eq (tgt := 42) S dX7_readHead_38 (by decide) hf (fun hf => ?_) (fun hf => ?_)
    · refine lv_aload_n hx hb dX7_readHead_42 rfl (lv_at hl 0 rfl) ?_
      refine r_callV (As := []) (rest := []) S hK hE hst hP hS h0 (by decide) rfl (cw_X7_62 ht ⟨Nat.le_of_ble_eq_true rfl, Nat.le_of_ble_eq_true rfl⟩) rfl hl.1 rfl (Nat.le_of_ble_eq_true rfl) dX7_readHead_43 z2 (fun _ _ h => c_X7_isNumberHere hG  h0 h) hf (fun x5 M H locs hP hS bx5 hf => ?_)
      obtain ⟨k6, hk6, hf⟩ := jn_w hf
      have J6 : ∀ (M : Mem) (H : Heap) (locs : List Loc) (ls : Array Slot), lv_has ls 1 [(0, .ref (ad o))] → va_P D classes (gws K G1 ad M) H → va_S A s.heap H locs → k6 M = some (r, M') → W p l e rm_X7_readHead s m args below meth c H locs 0 0 Q (F0 m 58 ls []) := by
        intro M H locs ls hl hP hS hf
        rw [hk6] at hf
        refine lv_aload_n hx hb dX7_readHead_58 rfl (lv_at hl 0 rfl) ?_
        refine lv_aload_n hx hb dX7_readHead_59 rfl (lv_at hl 0 rfl) ?_
        refine gf_X7_48 S hK hP h0 dX7_readHead_60 hf (fun x7 hf => ?_)
        refine pf_X7_23 S hK hG hP hS h0 dX7_readHead_63 hf (fun M H locs hP hS hf => ?_)
        exact hret _ _ _ _ _ _ dX7_readHead_66 hP hS hf
      refine r_if_eq (tgt := 58) S dX7_readHead_46 (by decide) hf (fun hf => ?_) (fun hf => ?_)
      · exact J6 M H locs ls (lv_sub hl [0] rfl) hP hS hf
      · refine lv_aload_n hx hb dX7_readHead_49 rfl (lv_at hl 0 rfl) ?_
        refine r_callV (As := []) (rest := []) S hK hE hst hP hS h0 (by decide) rfl (cw_X7_66 ht ⟨Nat.le_of_ble_eq_true rfl, Nat.le_of_ble_eq_true rfl⟩) rfl hl.1 rfl (Nat.le_of_ble_eq_true rfl) dX7_readHead_50 z2 (fun _ _ h => c_X7_numberHere hG  h0 h) hf (fun x8 M H locs hP hS bx8 hf => ?_)
        refine lv_bipush (v := 12) hx hb dX7_readHead_53 (by decide) ?_
        refine r_icmp_lt (tgt := 67) S dX7_readHead_55 (by decide) hf (fun hf => ?_) (fun hf => ?_)
        · refine lv_aload_n hx hb dX7_readHead_67 rfl (lv_at hl 0 rfl) ?_
          refine lv_aload_n hx hb dX7_readHead_68 rfl (lv_at hl 0 rfl) ?_
          refine r_callV (As := []) (rest := [.ref (ad o)]) S hK hE hst hP hS h0 (by decide) rfl (cw_X7_66 ht ⟨Nat.le_of_ble_eq_true rfl, Nat.le_of_ble_eq_true rfl⟩) rfl hl.1 rfl (Nat.le_of_ble_eq_true rfl) dX7_readHead_69 z2 (fun _ _ h => c_X7_numberHere hG  h0 h) hf (fun x9 M H locs hP hS bx9 hf => ?_)
          refine pf_X7_59 S hK hG hP hS h0 dX7_readHead_72 hf (fun M H locs hP hS hf => ?_)
          refine lv_aload_n hx hb dX7_readHead_75 rfl (lv_at hl 0 rfl) ?_
          refine r_callVv (As := []) (rest := []) S hK hE hst hP hS h0 (by decide) rfl (cw_X7_38 ht ⟨Nat.le_of_ble_eq_true rfl, Nat.le_of_ble_eq_true rfl⟩) rfl hl.1 rfl (Nat.le_of_ble_eq_true rfl) dX7_readHead_76 z2 (fun _ _ h => c_X7_forward hG  h0 h) hf (fun x10 M H locs hP hS hf => ?_)
          exact hret _ _ _ _ _ _ dX7_readHead_79 hP hS hf
        · exact J6 M H locs ls (lv_sub hl [0] rfl) hP hS hf
    · exact hret _ _ _ _ _ _ dX7_readHead_41 hP hS hf
  · refine lv_aload_n hx hb dX7_readHead_21 rfl (lv_at hl 0 rfl) ?_
    refine lv_aload_n hx hb dX7_readHead_22 rfl (lv_at hl 0 rfl) ?_
    refine gf_X7_48 S hK hP h0 dX7_readHead_23 hf (fun x11 hf => ?_)
    refine pf_X7_23 S hK hG hP hS h0 dX7_readHead_26 hf (fun M H locs hP hS hf => ?_)
    exact hret _ _ _ _ _ _ dX7_readHead_29 hP hS hf
def f_X7_signHere (o : Nat) (M : Mem) : Option (Int32 × Mem) :=
  vv (M o 10) fun x1 =>
  if x1 = 3 then
    vv (M o 8) fun x2 =>
    vv (M o 1) fun x3 =>
    if x2 < x3 then
      vv (grf G1 o 0) fun x4 =>
      vv (M o 8) fun x5 =>
      ld M x4 x5 96 fun x6 =>
      some (x6, M)
    else
      some (0, M)
  else
    some (0, M)
def rm_X7_signHere : Room := { frames := 0, cells := 0, slots := 0, locals := 0 }
set_option maxHeartbeats 4000000 in
set_option maxRecDepth 100000 in
theorem c_X7_signHere {l : Launch} {D : va_G} {K : Ks} {ad : Nat → Nat} {A : Nat → Prop} {tC tA tP : Nat} {kK kV : Nat → Nat} (hG : Gok G1 ad A) {o : Nat} (h0 : gcl G1 o = 7) {M : Mem} {r : Int32} {M' : Mem} (hf : f_X7_signHere o M = some (r, M')) : Ct l (E1 A tC tA tP kK kV) D K G1 ad A yX7_signHere (ws_of yX7_signHere cX7_signHere 1 (some .int)) rm_X7_signHere .int [.ref (ad o)] M r M' := by
  have hst : Est A (E1 A tC tA tP kK kV) := est1
  refine Ct.ofW (by decide) (Nat.le_of_ble_eq_true rfl) ?_
  intro p e s m args below meth c Q H locs ls S hK hE hP hS hl hret
  have hx := S.1
  have hb := S.2.1
  have hown := S.2.2.2.1
  have ht := S.2.2.2.2
  have hl : lv_has ls 1 [(0, .ref (ad o))] := hl
  unfold f_X7_signHere at hf
  refine lv_aload_n hx hb dX7_signHere_0 rfl (lv_at hl 0 rfl) ?_
  refine gf_X7_35 S hK hP h0 dX7_signHere_1 hf (fun x1 hf => ?_)
  refine lv_iconst (v := 3) hx hb dX7_signHere_4 (by decide) ?_
  refine r_icmp_ne (tgt := 31) S dX7_signHere_5 (by decide) hf (fun hf => ?_) (fun hf => ?_)
  · refine lv_iconst (v := 0) hx hb dX7_signHere_31 (by decide) ?_
    exact hret _ _ _ _ _ _ dX7_signHere_32 hP hS rfl hf
  · refine lv_aload_n hx hb dX7_signHere_8 rfl (lv_at hl 0 rfl) ?_
    refine gf_X7_48 S hK hP h0 dX7_signHere_9 hf (fun x2 hf => ?_)
    refine lv_aload_n hx hb dX7_signHere_12 rfl (lv_at hl 0 rfl) ?_
    refine gf_X7_19 S hK hP h0 dX7_signHere_13 hf (fun x3 hf => ?_)
    refine r_icmp_ge (tgt := 31) S dX7_signHere_16 (by decide) hf (fun hf => ?_) (fun hf => ?_)
    · refine lv_iconst (v := 0) hx hb dX7_signHere_31 (by decide) ?_
      exact hret _ _ _ _ _ _ dX7_signHere_32 hP hS rfl hf
    · refine lv_aload_n hx hb dX7_signHere_19 rfl (lv_at hl 0 rfl) ?_
      refine gf_X7_9 S hK hP h0 dX7_signHere_20 hf (fun x4 hx4 hf => ?_)
      refine lv_aload_n hx hb dX7_signHere_23 rfl (lv_at hl 0 rfl) ?_
      refine gf_X7_48 S hK hP h0 dX7_signHere_24 hf (fun x5 hf => ?_)
      refine r_bald S hK hP hx4 dX7_signHere_27 hf (fun x6 hf => ?_)
      refine lv_goto (tgt := 32) hx hb dX7_signHere_28 (by decide) ?_
      exact hret _ _ _ _ _ _ dX7_signHere_32 hP hS rfl hf
section
variable {p : Program} {l : Launch} {e : Env} {R : Room} {s : State} {m : MethodId} {args : Array Value} {below : List Frame} {meth : Method} {c : Code} {H : Heap} {locs : List Loc} {cells slots : Nat} {Q : State → Prop} {cc : ByteArray} {pc : Nat} {ls : Array Slot} {rest : List Value} {nL : Nat} {D : va_G} {K : Ks} {ad : Nat → Nat} {A : Nat → Prop} {M : Mem} {β : Type} {z : β}
theorem gf_X7_15 (S : CallFix p m c cc nL s args Tw RX7) (hK : va_K D classes (gty K) s) (hP : va_P D classes (gws K G1 ad M) H) {a : Nat} {kk : Nat → Option β} (ha : gcl G1 a = 7) (hdg : decode cc pc = .ok (.getfield 15, 3)) (hf : vv (grf G1 a 6) kk = some z) (w : ∀ b, gcl G1 b = 20 ∧ gsz G1 b = 96 → kk b = some z → W p l e R s m args below meth c H locs cells slots Q (F0 m (pc + 3) ls (.ref (ad b) :: rest))) : W p l e R s m args below meth c H locs cells slots Q (F0 m pc ls (.ref (ad a) :: rest)) := r_getr S hK hP (T := TX7) inX7 rfl (by decide) (by decide) ha (sf_X7_6 ha).1 k_294 hdg hf (fun b e => w b (by rw [e]; exact (sf_X7_6 ha).2))
end
section
variable {p : Program} {l : Launch} {e : Env} {R : Room} {s : State} {m : MethodId} {args : Array Value} {below : List Frame} {meth : Method} {c : Code} {H : Heap} {locs : List Loc} {cells slots : Nat} {Q : State → Prop} {cc : ByteArray} {pc : Nat} {ls : Array Slot} {rest : List Value} {nL : Nat} {D : va_G} {K : Ks} {ad : Nat → Nat} {A : Nat → Prop} {M : Mem} {β : Type} {z : β}
theorem gf_X7_26 (S : CallFix p m c cc nL s args Tw RX7) (hK : va_K D classes (gty K) s) (hP : va_P D classes (gws K G1 ad M) H) {a : Nat} {kk : Int32 → Option β} (ha : gcl G1 a = 7) (hdg : decode cc pc = .ok (.getfield 26, 3)) (hf : vv (M a 7) kk = some z) (w : ∀ x, kk x = some z → W p l e R s m args below meth c H locs cells slots Q (F0 m (pc + 3) ls (.int x :: rest))) : W p l e R s m args below meth c H locs cells slots Q (F0 m pc ls (.ref (ad a) :: rest)) := r_geti S hK hP (T := TX7) inX7 rfl (by decide) (by decide) ha (sf_X7_7 ha) k_296 hdg hf w
end
section
variable {p : Program} {l : Launch} {e : Env} {R : Room} {s : State} {m : MethodId} {args : Array Value} {below : List Frame} {meth : Method} {c : Code} {H : Heap} {locs : List Loc} {cells slots : Nat} {Q : State → Prop} {cc : ByteArray} {pc : Nat} {ls : Array Slot} {rest : List Value} {nL : Nat} {D : va_G} {K : Ks} {ad : Nat → Nat} {A : Nat → Prop} {M : Mem} {β : Type} {z : β}
theorem pf_X7_26 (S : CallFix p m c cc nL s args Tw RX7) (hK : va_K D classes (gty K) s) (hG : Gok G1 ad A) (hP : va_P D classes (gws K G1 ad M) H) (hS : va_S A s.heap H locs) {a : Nat} {v : Int32} {kk : Mem → Option β} (ha : gcl G1 a = 7) (hdg : decode cc pc = .ok (.putfield 26, 3)) (hf : mm (up M a 7 v) kk = some z) (w : ∀ M H locs, va_P D classes (gws K G1 ad M) H → va_S A s.heap H locs → kk M = some z → W p l e R s m args below meth c H locs cells slots Q (F0 m (pc + 3) ls rest)) : W p l e R s m args below meth c H locs cells slots Q (F0 m pc ls (.int v :: .ref (ad a) :: rest)) := r_putt S hK hG hP hS (k := 7) (T := TX7) inX7 rfl (by decide) tyX7 tyX7_ok nmX7 (by decide) rfl rfl rfl ha (sf_X7_7 ha) k_296 hdg hf w
end
def f_X7_put (o : Nat) (p1 : Int32) (M : Mem) : Option (Int32 × Mem) :=
  vv (M o 7) fun x1 =>
  if x1 < 96 then
    vv (grf G1 o 6) fun x2 =>
    vv (M o 7) fun x3 =>
    st M x2 x3 96 p1 fun M =>
    vv (M o 7) fun x4 =>
    mm (up M o 7 (x4 + 1)) fun M =>
    some (0, M)
  else
    some (0, M)
def rm_X7_put : Room := { frames := 0, cells := 0, slots := 0, locals := 0 }
set_option maxHeartbeats 4000000 in
set_option maxRecDepth 100000 in
theorem c_X7_put {l : Launch} {D : va_G} {K : Ks} {ad : Nat → Nat} {A : Nat → Prop} {tC tA tP : Nat} {kK kV : Nat → Nat} (hG : Gok G1 ad A) {o : Nat} {p1 : Int32} (h0 : gcl G1 o = 7) {M : Mem} {r : Int32} {M' : Mem} (hf : f_X7_put o p1 M = some (r, M')) : Cv l (E1 A tC tA tP kK kV) D K G1 ad A yX7_put (ws_of yX7_put cX7_put 2 none) rm_X7_put [.ref (ad o), .int p1] M M' := by
  have hst : Est A (E1 A tC tA tP kK kV) := est1
  refine Cv.ofW (r := r) (by decide) (Nat.le_of_ble_eq_true rfl) ?_
  intro p e s m args below meth c Q H locs ls S hK hE hP hS hl hret
  have hx := S.1
  have hb := S.2.1
  have hown := S.2.2.2.1
  have ht := S.2.2.2.2
  have hl : lv_has ls 2 [(0, .ref (ad o)), (1, .int p1)] := hl
  unfold f_X7_put at hf
  refine lv_aload_n hx hb dX7_put_0 rfl (lv_at hl 0 rfl) ?_
  refine gf_X7_26 S hK hP h0 dX7_put_1 hf (fun x1 hf => ?_)
  refine lv_bipush (v := 96) hx hb dX7_put_4 (by decide) ?_
  refine r_icmp_lt (tgt := 10) S dX7_put_6 (by decide) hf (fun hf => ?_) (fun hf => ?_)
  · refine lv_aload_n hx hb dX7_put_10 rfl (lv_at hl 0 rfl) ?_
    refine gf_X7_15 S hK hP h0 dX7_put_11 hf (fun x2 hx2 hf => ?_)
    refine lv_aload_n hx hb dX7_put_14 rfl (lv_at hl 0 rfl) ?_
    refine gf_X7_26 S hK hP h0 dX7_put_15 hf (fun x3 hf => ?_)
    refine lv_iload_n hx hb dX7_put_18 rfl (lv_at hl 1 rfl) ?_
    refine r_iast S hK hG hP hS hx2 dX7_put_19 hf (fun M H locs hP hS hf => ?_)
    refine lv_aload_n hx hb dX7_put_20 rfl (lv_at hl 0 rfl) ?_
    refine lv_dup hx hb dX7_put_21 rfl ?_
    refine gf_X7_26 S hK hP h0 dX7_put_22 hf (fun x4 hf => ?_)
    refine lv_iconst (v := 1) hx hb dX7_put_25 (by decide) ?_
    refine lv_iadd hx hb dX7_put_26 ?_
    refine pf_X7_26 S hK hG hP hS h0 dX7_put_27 hf (fun M H locs hP hS hf => ?_)
    exact hret _ _ _ _ _ _ dX7_put_30 hP hS hf
  · exact hret _ _ _ _ _ _ dX7_put_9 hP hS hf
theorem cw_X7_73 {R : Room} {s : State} {args : Array Value} (ht : ∀ w ∈ Tw, w.before args s = true) (hR : rm_X7_signHere.frames + 1 ≤ R.frames ∧ 8 + (1 + 11) + rm_X7_signHere.locals ≤ R.locals) : CallW R s args RX7 RX7 73 yX7_signHere cX7_signHere 1 (some .int) (ws_of yX7_signHere cX7_signHere 1 (some .int)) rm_X7_signHere 0 0 0 := cw_V 0 ht k_637 k_639 k_10 k_70 k_640 (by decide +kernel) rfl rfl hR
def f_X7_readClosing (o : Nat) (M : Mem) : Option (Int32 × Mem) :=
  bd (f_X7_signHere o M) fun x1 M =>
  if x1 = 41 then
    bd (f_X7_forward o M) fun _ M =>
    some (0, M)
  else
    vv (M o 8) fun x2 =>
    mm (up M o 2 x2) fun M =>
    some (0, M)
def rm_X7_readClosing : Room := { frames := 2, cells := 0, slots := 0, locals := 44 }
set_option maxHeartbeats 4000000 in
set_option maxRecDepth 100000 in
theorem c_X7_readClosing {l : Launch} {D : va_G} {K : Ks} {ad : Nat → Nat} {A : Nat → Prop} {tC tA tP : Nat} {kK kV : Nat → Nat} (hG : Gok G1 ad A) {o : Nat} (h0 : gcl G1 o = 7) {M : Mem} {r : Int32} {M' : Mem} (hf : f_X7_readClosing o M = some (r, M')) : Cv l (E1 A tC tA tP kK kV) D K G1 ad A yX7_readClosing (ws_of yX7_readClosing cX7_readClosing 1 none) rm_X7_readClosing [.ref (ad o)] M M' := by
  have hst : Est A (E1 A tC tA tP kK kV) := est1
  refine Cv.ofW (r := r) (by decide) (Nat.le_of_ble_eq_true rfl) ?_
  intro p e s m args below meth c Q H locs ls S hK hE hP hS hl hret
  have hx := S.1
  have hb := S.2.1
  have hown := S.2.2.2.1
  have ht := S.2.2.2.2
  have hl : lv_has ls 1 [(0, .ref (ad o))] := hl
  unfold f_X7_readClosing at hf
  refine lv_aload_n hx hb dX7_readClosing_0 rfl (lv_at hl 0 rfl) ?_
  refine r_callV (As := []) (rest := []) S hK hE hst hP hS h0 (by decide) rfl (cw_X7_73 ht ⟨Nat.le_of_ble_eq_true rfl, Nat.le_of_ble_eq_true rfl⟩) rfl hl.1 rfl (Nat.le_of_ble_eq_true rfl) dX7_readClosing_1 z2 (fun _ _ h => c_X7_signHere hG  h0 h) hf (fun x1 M H locs hP hS bx1 hf => ?_)
  refine lv_bipush (v := 41) hx hb dX7_readClosing_4 (by decide) ?_
  refine r_icmp_ne (tgt := 16) S dX7_readClosing_6 (by decide) hf (fun hf => ?_) (fun hf => ?_)
  · refine lv_aload_n hx hb dX7_readClosing_16 rfl (lv_at hl 0 rfl) ?_
    refine lv_aload_n hx hb dX7_readClosing_17 rfl (lv_at hl 0 rfl) ?_
    refine gf_X7_48 S hK hP h0 dX7_readClosing_18 hf (fun x2 hf => ?_)
    refine pf_X7_23 S hK hG hP hS h0 dX7_readClosing_21 hf (fun M H locs hP hS hf => ?_)
    exact hret _ _ _ _ _ _ dX7_readClosing_24 hP hS hf
  · refine lv_aload_n hx hb dX7_readClosing_9 rfl (lv_at hl 0 rfl) ?_
    refine r_callVv (As := []) (rest := []) S hK hE hst hP hS h0 (by decide) rfl (cw_X7_38 ht ⟨Nat.le_of_ble_eq_true rfl, Nat.le_of_ble_eq_true rfl⟩) rfl hl.1 rfl (Nat.le_of_ble_eq_true rfl) dX7_readClosing_10 z2 (fun _ _ h => c_X7_forward hG  h0 h) hf (fun x3 M H locs hP hS hf => ?_)
    refine lv_goto (tgt := 24) hx hb dX7_readClosing_13 (by decide) ?_
    exact hret _ _ _ _ _ _ dX7_readClosing_24 hP hS hf
def f_J1_canEncode_9a6ad (p0 : Int32) (M : Mem) : Option (Int32 × Mem) :=
  if p0 < 0 then
    some (0, M)
  else
    if 255 < p0 then
      some (0, M)
    else
      some (1, M)
def rm_J1_canEncode_9a6ad : Room := { frames := 0, cells := 0, slots := 0, locals := 0 }
set_option maxHeartbeats 4000000 in
set_option maxRecDepth 100000 in
theorem c_J1_canEncode_9a6ad {l : Launch} {D : va_G} {K : Ks} {ad : Nat → Nat} {A : Nat → Prop} {tC tA tP : Nat} {kK kV : Nat → Nat} (hG : Gok G1 ad A) {p0 : Int32}  {M : Mem} {r : Int32} {M' : Mem} (hf : f_J1_canEncode_9a6ad p0 M = some (r, M')) : Ct l (E1 A tC tA tP kK kV) D K G1 ad A yJ1_canEncode_9a6ad (ws_of yJ1_canEncode_9a6ad cJ1_canEncode_9a6ad 1 (some .boolean)) rm_J1_canEncode_9a6ad .boolean [.int p0] M r M' := by
  have hst : Est A (E1 A tC tA tP kK kV) := est1
  refine Ct.ofW (by decide) (Nat.le_of_ble_eq_true rfl) ?_
  intro p e s m args below meth c Q H locs ls S hK hE hP hS hl hret
  have hx := S.1
  have hb := S.2.1
  have hown := S.2.2.2.1
  have ht := S.2.2.2.2
  have hl : lv_has ls 1 [(0, .int p0)] := hl
  unfold f_J1_canEncode_9a6ad at hf
  refine lv_iload_n hx hb dJ1_canEncode_9a6ad_0 rfl (lv_at hl 0 rfl) ?_
  refine r_if_lt (tgt := 15) S dJ1_canEncode_9a6ad_1 (by decide) hf (fun hf => ?_) (fun hf => ?_)
  · refine lv_iconst (v := 0) hx hb dJ1_canEncode_9a6ad_15 (by decide) ?_
    exact hret _ _ _ _ _ _ dJ1_canEncode_9a6ad_16 hP hS rfl hf
  · refine lv_iload_n hx hb dJ1_canEncode_9a6ad_4 rfl (lv_at hl 0 rfl) ?_
    refine lv_sipush (v := 255) hx hb dJ1_canEncode_9a6ad_5 (by decide) ?_
    refine r_icmp_gt (tgt := 15) S dJ1_canEncode_9a6ad_8 (by decide) hf (fun hf => ?_) (fun hf => ?_)
    · refine lv_iconst (v := 0) hx hb dJ1_canEncode_9a6ad_15 (by decide) ?_
      exact hret _ _ _ _ _ _ dJ1_canEncode_9a6ad_16 hP hS rfl hf
    · refine lv_iconst (v := 1) hx hb dJ1_canEncode_9a6ad_11 (by decide) ?_
      refine lv_goto (tgt := 16) hx hb dJ1_canEncode_9a6ad_12 (by decide) ?_
      exact hret _ _ _ _ _ _ dJ1_canEncode_9a6ad_16 hP hS rfl hf
def f_J1_indexOfChar_4cfef (p0 : Nat) (p1 : Int32) (p2 : Int32) (p3 : Int32) (M : Mem) : Option (Int32 × Mem) :=
  vv (Int8.toInt32 (Int32.toInt8 p1)) fun x1 =>
  it1 (fun rc3 (v2 : Int32) M =>
    if v2 < p3 then
      sl (fun j => (bytS.getD p0 []).getD j 0) v2 (lenS.getD p0 0) fun x4 =>
      if x4 = x1 then
        some (v2, M)
      else
        rc3 (v2 + 1) M
    else
      some ((-1), M)
  ) fuel p2 M
def rm_J1_indexOfChar_4cfef : Room := { frames := 0, cells := 0, slots := 0, locals := 0 }
set_option maxHeartbeats 4000000 in
set_option maxRecDepth 100000 in
theorem c_J1_indexOfChar_4cfef {l : Launch} {D : va_G} {K : Ks} {ad : Nat → Nat} {A : Nat → Prop} {tC tA tP : Nat} {kK kV : Nat → Nat} (hG : Gok G1 ad A) {p0 : Nat} {p1 : Int32} {p2 : Int32} {p3 : Int32} (h0 : p0 < 6) {M : Mem} {r : Int32} {M' : Mem} (hf : f_J1_indexOfChar_4cfef p0 p1 p2 p3 M = some (r, M')) : Ct l (E1 A tC tA tP kK kV) D K G1 ad A yJ1_indexOfChar_4cfef (ws_of yJ1_indexOfChar_4cfef cJ1_indexOfChar_4cfef 6 (some .int)) rm_J1_indexOfChar_4cfef .int [.ref (kV p0), .int p1, .int p2, .int p3] M r M' := by
  have hst : Est A (E1 A tC tA tP kK kV) := est1
  refine Ct.ofW (by decide) (Nat.le_of_ble_eq_true rfl) ?_
  intro p e s m args below meth c Q H locs ls S hK hE hP hS hl hret
  have hx := S.1
  have hb := S.2.1
  have hown := S.2.2.2.1
  have ht := S.2.2.2.2
  have hl : lv_has ls 6 [(0, .ref (kV p0)), (1, .int p1), (2, .int p2), (3, .int p3)] := hl
  unfold f_J1_indexOfChar_4cfef at hf
  refine lv_iload_n hx hb dJ1_indexOfChar_4cfef_0 rfl (lv_at hl 1 rfl) ?_
  refine lv_i2b (v := (Int8.toInt32 (Int32.toInt8 p1))) hx hb dJ1_indexOfChar_4cfef_1 rfl ?_
  refine r_vi hf (fun x1 hf => ?_)
  refine lv_istore (lv' := [(4, .int x1), (0, .ref (kV p0)), (1, .int p1), (2, .int p2), (3, .int p3)]) hx hb dJ1_indexOfChar_4cfef_2 hl (by decide) rfl (fun ls hl => ?_)
  refine lv_iload_n hx hb dJ1_indexOfChar_4cfef_4 rfl (lv_at hl 3 rfl) ?_
  refine lv_istore (lv' := [(5, .int p2), (4, .int x1), (0, .ref (kV p0)), (1, .int p1), (2, .int p2), (3, .int p3)]) hx hb dJ1_indexOfChar_4cfef_5 hl (by decide) rfl (fun ls hl => ?_)
  obtain ⟨F3, hF3, hf⟩ := it1_g hf
  have L3 : ∀ (n : Nat) (v2 : Int32) (M : Mem) (H : Heap) (locs : List Loc) (ls : Array Slot), lv_has ls 6 [(0, .ref (kV p0)), (3, .int p3), (4, .int x1), (5, .int v2)] → va_P D classes (gws K G1 ad M) H → va_S A s.heap H locs → it1 F3 n v2 M = some (r, M') → W p l e rm_J1_indexOfChar_4cfef s m args below meth c H locs 0 0 Q (F0 m 7 ls []) := by
    intro n
    induction n with
    | zero => intro v2 M H locs ls hl hP hS hf; exact nomatch hf
    | succ n ih3 =>
      intro v2 M H locs ls hl hP hS hf
      obtain ⟨rc3, hrc3, hf⟩ := it1_w hf
      rw [← hrc3] at ih3
      rw [hF3] at hf
      refine lv_iload hx hb dJ1_indexOfChar_4cfef_7 (lv_at hl 3 rfl) ?_
      refine lv_iload_n hx hb dJ1_indexOfChar_4cfef_9 rfl (lv_at hl 1 rfl) ?_
      refine r_icmp_ge (tgt := 31) S dJ1_indexOfChar_4cfef_10 (by decide) hf (fun hf => ?_) (fun hf => ?_)
      · refine lv_iconst (v := (-1)) hx hb dJ1_indexOfChar_4cfef_31 (by decide) ?_
        exact hret _ _ _ _ _ _ dJ1_indexOfChar_4cfef_32 hP hS rfl hf
      · refine lv_aload_n hx hb dJ1_indexOfChar_4cfef_13 rfl (lv_at hl 0 rfl) ?_
        refine lv_iload hx hb dJ1_indexOfChar_4cfef_14 (lv_at hl 3 rfl) ?_
        refine r_slb S hS (hE.2.2.2.2.2.2.2.2.1.1 p0 h0).2.2.2 dJ1_indexOfChar_4cfef_16 hf (fun x4 hf => ?_)
        refine lv_iload hx hb dJ1_indexOfChar_4cfef_17 (lv_at hl 2 rfl) ?_
        refine r_icmp_ne (tgt := 25) S dJ1_indexOfChar_4cfef_19 (by decide) hf (fun hf => ?_) (fun hf => ?_)
        · refine lv_iinc (v := (v2 + 1)) (lv' := [(5, .int (v2 + 1)), (0, .ref (kV p0)), (3, .int p3), (4, .int x1)]) hx hb dJ1_indexOfChar_4cfef_25 hl (k := 3) rfl rfl (by decide) rfl (fun ls hl => ?_)
          refine lv_goto (tgt := 7) hx hb dJ1_indexOfChar_4cfef_28 (by decide) ?_
          exact ih3 (v2 + 1) M H locs ls (lv_sub hl [1, 2, 3, 0] rfl) hP hS hf
        · refine lv_iload hx hb dJ1_indexOfChar_4cfef_22 (lv_at hl 3 rfl) ?_
          exact hret _ _ _ _ _ _ dJ1_indexOfChar_4cfef_24 hP hS rfl hf
  exact L3 _ p2 M H locs ls (lv_sub hl [2, 5, 1, 0] rfl) hP hS hf
theorem cw_J1_88 {R : Room} {s : State} {args : Array Value} (ht : ∀ w ∈ Tw, w.before args s = true) (hR : rm_J1_canEncode_9a6ad.frames + 1 ≤ R.frames ∧ 8 + (1 + 11) + rm_J1_canEncode_9a6ad.locals ≤ R.locals) : CallB R s args RJ1 88 yJ1_canEncode_9a6ad cJ1_canEncode_9a6ad 1 (some .boolean) (ws_of yJ1_canEncode_9a6ad cJ1_canEncode_9a6ad 1 (some .boolean)) rm_J1_canEncode_9a6ad 0 0 1 ∧ (Cond.static yJ1_canEncode_9a6ad).before args s = true := cw_S 1 ht k_672 k_673 k_76 k_674 (by decide +kernel) rfl rfl hR
theorem cw_J1_95 {R : Room} {s : State} {args : Array Value} (ht : ∀ w ∈ Tw, w.before args s = true) (hR : rm_J1_indexOfChar_4cfef.frames + 1 ≤ R.frames ∧ 8 + (6 + 11) + rm_J1_indexOfChar_4cfef.locals ≤ R.locals) : CallB R s args RJ1 95 yJ1_indexOfChar_4cfef cJ1_indexOfChar_4cfef 6 (some .int) (ws_of yJ1_indexOfChar_4cfef cJ1_indexOfChar_4cfef 6 (some .int)) rm_J1_indexOfChar_4cfef 0 0 4 ∧ (Cond.static yJ1_indexOfChar_4cfef).before args s = true := cw_S 4 ht k_681 k_682 k_76 k_683 (by decide +kernel) rfl rfl hR
def f_J1_indexOf_4cfef (p0 : Nat) (p1 : Int32) (p2 : Int32) (p3 : Int32) (M : Mem) : Option (Int32 × Mem) :=
  bd (f_J1_canEncode_9a6ad p1 M) fun x1 M =>
  if x1 = 0 then
    some ((-1), M)
  else
    vv (if p2 < 0 then 0 else p2) fun x2 =>
    vv (if (nI (lenS.getD p0 0)) < p3 then (nI (lenS.getD p0 0)) else p3) fun x3 =>
    if x2 < x3 then
      bd (f_J1_indexOfChar_4cfef p0 p1 x2 x3 M) fun x4 M =>
      some (x4, M)
    else
      some ((-1), M)
def rm_J1_indexOf_4cfef : Room := { frames := 1, cells := 0, slots := 0, locals := 60 }
set_option maxHeartbeats 4000000 in
set_option maxRecDepth 100000 in
theorem c_J1_indexOf_4cfef {l : Launch} {D : va_G} {K : Ks} {ad : Nat → Nat} {A : Nat → Prop} {tC tA tP : Nat} {kK kV : Nat → Nat} (hG : Gok G1 ad A) {p0 : Nat} {p1 : Int32} {p2 : Int32} {p3 : Int32} (h0 : p0 < 6) {M : Mem} {r : Int32} {M' : Mem} (hf : f_J1_indexOf_4cfef p0 p1 p2 p3 M = some (r, M')) : Ct l (E1 A tC tA tP kK kV) D K G1 ad A yJ1_indexOf_4cfef (ws_of yJ1_indexOf_4cfef cJ1_indexOf_4cfef 4 (some .int)) rm_J1_indexOf_4cfef .int [.ref (kV p0), .int p1, .int p2, .int p3] M r M' := by
  have hst : Est A (E1 A tC tA tP kK kV) := est1
  refine Ct.ofW (by decide) (Nat.le_of_ble_eq_true rfl) ?_
  intro p e s m args below meth c Q H locs ls S hK hE hP hS hl hret
  have hx := S.1
  have hb := S.2.1
  have hown := S.2.2.2.1
  have ht := S.2.2.2.2
  have hl : lv_has ls 4 [(0, .ref (kV p0)), (1, .int p1), (2, .int p2), (3, .int p3)] := hl
  unfold f_J1_indexOf_4cfef at hf
  refine lv_iload_n hx hb dJ1_indexOf_4cfef_0 rfl (lv_at hl 1 rfl) ?_
  refine r_callS (As := [.int p1]) (rest := []) S hK hE hst hP hS (cw_J1_88 ht ⟨Nat.le_of_ble_eq_true rfl, Nat.le_of_ble_eq_true rfl⟩) rfl hl.1 rfl (Nat.le_of_ble_eq_true rfl) dJ1_indexOf_4cfef_1 z2 (fun _ _ h => c_J1_canEncode_9a6ad hG  h) hf (fun x1 M H locs hP hS bx1 hf => ?_)
  refine r_if_ne (tgt := 9) S dJ1_indexOf_4cfef_4 (by decide) hf (fun hf => ?_) (fun hf => ?_)
  · refine lv_iload_n hx hb dJ1_indexOf_4cfef_9 rfl (lv_at hl 2 rfl) ?_
    refine lv_iconst (v := 0) hx hb dJ1_indexOf_4cfef_10 (by decide) ?_
    refine r_max S k_675 k_676 k_74 k_677 hl.1 (Nat.le_of_ble_eq_true rfl) (Nat.le_of_ble_eq_true rfl) z2 dJ1_indexOf_4cfef_11 ?_
    refine r_vi hf (fun x2 hf => ?_)
    refine lv_istore_n (lv' := [(2, .int x2), (0, .ref (kV p0)), (1, .int p1), (3, .int p3)]) hx hb dJ1_indexOf_4cfef_14 rfl hl (by decide) rfl (fun ls hl => ?_)
    refine lv_iload_n hx hb dJ1_indexOf_4cfef_15 rfl (lv_at hl 3 rfl) ?_
    refine lv_aload_n hx hb dJ1_indexOf_4cfef_16 rfl (lv_at hl 1 rfl) ?_
    refine va_tlen (v := (nI (lenS.getD p0 0))) hx hb (hE.2.2.2.2.2.2.2.2.1.1 p0 h0).2.2.2 hS rfl dJ1_indexOf_4cfef_17 ?_
    refine r_min S k_678 k_679 k_74 k_680 hl.1 (Nat.le_of_ble_eq_true rfl) (Nat.le_of_ble_eq_true rfl) z2 dJ1_indexOf_4cfef_18 ?_
    refine r_vi hf (fun x3 hf => ?_)
    refine lv_istore_n (lv' := [(3, .int x3), (2, .int x2), (0, .ref (kV p0)), (1, .int p1)]) hx hb dJ1_indexOf_4cfef_21 rfl hl (by decide) rfl (fun ls hl => ?_)
    refine lv_iload_n hx hb dJ1_indexOf_4cfef_22 rfl (lv_at hl 1 rfl) ?_
    refine lv_iload_n hx hb dJ1_indexOf_4cfef_23 rfl (lv_at hl 0 rfl) ?_
    refine r_icmp_lt (tgt := 29) S dJ1_indexOf_4cfef_24 (by decide) hf (fun hf => ?_) (fun hf => ?_)
    · refine lv_aload_n hx hb dJ1_indexOf_4cfef_29 rfl (lv_at hl 2 rfl) ?_
      refine lv_iload_n hx hb dJ1_indexOf_4cfef_30 rfl (lv_at hl 3 rfl) ?_
      refine lv_iload_n hx hb dJ1_indexOf_4cfef_31 rfl (lv_at hl 1 rfl) ?_
      refine lv_iload_n hx hb dJ1_indexOf_4cfef_32 rfl (lv_at hl 0 rfl) ?_
      refine r_callS (As := [.ref (kV p0), .int p1, .int x2, .int x3]) (rest := []) S hK hE hst hP hS (cw_J1_95 ht ⟨Nat.le_of_ble_eq_true rfl, Nat.le_of_ble_eq_true rfl⟩) rfl hl.1 rfl (Nat.le_of_ble_eq_true rfl) dJ1_indexOf_4cfef_33 z2 (fun _ _ h => c_J1_indexOfChar_4cfef hG  h0 h) hf (fun x4 M H locs hP hS bx4 hf => ?_)
      exact hret _ _ _ _ _ _ dJ1_indexOf_4cfef_36 hP hS rfl hf
    · refine lv_iconst (v := (-1)) hx hb dJ1_indexOf_4cfef_27 (by decide) ?_
      exact hret _ _ _ _ _ _ dJ1_indexOf_4cfef_28 hP hS rfl hf
  · refine lv_iconst (v := (-1)) hx hb dJ1_indexOf_4cfef_7 (by decide) ?_
    exact hret _ _ _ _ _ _ dJ1_indexOf_4cfef_8 hP hS rfl hf
theorem cw_J0_505 {R : Room} {s : State} {args : Array Value} (ht : ∀ w ∈ Tw, w.before args s = true) (hR : rm_J0_length_8abf5.frames + 1 ≤ R.frames ∧ 8 + (1 + 11) + rm_J0_length_8abf5.locals ≤ R.locals) : CallW R s args RJ0 RJ0 505 yJ0_length_8abf5 cJ0_length_8abf5 1 (some .int) (ws_of yJ0_length_8abf5 cJ0_length_8abf5 1 (some .int)) rm_J0_length_8abf5 0 0 0 := cw_V 0 ht k_668 k_571 k_572 k_75 k_573 (by decide +kernel) rfl rfl hR
theorem cw_J0_637 {R : Room} {s : State} {args : Array Value} (ht : ∀ w ∈ Tw, w.before args s = true) (hR : rm_J1_indexOf_4cfef.frames + 1 ≤ R.frames ∧ 8 + (4 + 11) + rm_J1_indexOf_4cfef.locals ≤ R.locals) : CallB R s args RJ0 637 yJ1_indexOf_4cfef cJ1_indexOf_4cfef 4 (some .int) (ws_of yJ1_indexOf_4cfef cJ1_indexOf_4cfef 4 (some .int)) rm_J1_indexOf_4cfef 0 0 4 ∧ (Cond.static yJ1_indexOf_4cfef).before args s = true := cw_S 4 ht k_669 k_670 k_76 k_671 (by decide +kernel) rfl rfl hR
def f_J0_indexOf_7cf53 (o : Nat) (p1 : Int32) (p2 : Int32) (M : Mem) : Option (Int32 × Mem) :=
  bd (f_J0_isLatin1_aae02 o M) fun x1 M =>
  if x1 = 0 then
    bd (f_J0_length_8abf5 o M) fun x2 M =>
    none
  else
    bd (f_J0_length_8abf5 o M) fun x3 M =>
    bd (f_J1_indexOf_4cfef o p1 p2 x3 M) fun x4 M =>
    some (x4, M)
def rm_J0_indexOf_7cf53 : Room := { frames := 2, cells := 0, slots := 0, locals := 83 }
set_option maxHeartbeats 4000000 in
set_option maxRecDepth 100000 in
theorem c_J0_indexOf_7cf53 {l : Launch} {D : va_G} {K : Ks} {ad : Nat → Nat} {A : Nat → Prop} {tC tA tP : Nat} {kK kV : Nat → Nat} (hG : Gok G1 ad A) {o : Nat} {p1 : Int32} {p2 : Int32} (h0 : o < 6) {M : Mem} {r : Int32} {M' : Mem} (hf : f_J0_indexOf_7cf53 o p1 p2 M = some (r, M')) : Ct l (E1 A tC tA tP kK kV) D K G1 ad A yJ0_indexOf_7cf53 (ws_of yJ0_indexOf_7cf53 cJ0_indexOf_7cf53 3 (some .int)) rm_J0_indexOf_7cf53 .int [.ref (kK o), .int p1, .int p2] M r M' := by
  have hst : Est A (E1 A tC tA tP kK kV) := est1
  refine Ct.ofW (by decide) (Nat.le_of_ble_eq_true rfl) ?_
  intro p e s m args below meth c Q H locs ls S hK hE hP hS hl hret
  have hx := S.1
  have hb := S.2.1
  have hown := S.2.2.2.1
  have ht := S.2.2.2.2
  have hl : lv_has ls 3 [(0, .ref (kK o)), (1, .int p1), (2, .int p2)] := hl
  unfold f_J0_indexOf_7cf53 at hf
  refine lv_aload_n hx hb dJ0_indexOf_7cf53_0 rfl (lv_at hl 0 rfl) ?_
  refine r_callK (As := []) (rest := []) S hK hE hst hP hS h0 (cw_J0_492 ht ⟨Nat.le_of_ble_eq_true rfl, Nat.le_of_ble_eq_true rfl⟩) rfl hl.1 rfl (Nat.le_of_ble_eq_true rfl) dJ0_indexOf_7cf53_1 z2 (fun _ _ h => c_J0_isLatin1_aae02 hG  h0 h) hf (fun x1 M H locs hP hS bx1 hf => ?_)
  refine r_if_eq (tgt := 23) S dJ0_indexOf_7cf53_4 (by decide) hf (fun hf => ?_) (fun hf => ?_)
  · refine lv_aload_n hx hb dJ0_indexOf_7cf53_23 rfl (lv_at hl 0 rfl) ?_
    refine vk_getf hx hb (hE.2.2.2.2.2.2.2.2.1.1 o h0).2.2.1 hS hown (ht _ k_1667) (fun _ h => h) dJ0_indexOf_7cf53_24 ?_
    refine lv_iload_n hx hb dJ0_indexOf_7cf53_27 rfl (lv_at hl 1 rfl) ?_
    refine lv_iload_n hx hb dJ0_indexOf_7cf53_28 rfl (lv_at hl 2 rfl) ?_
    refine lv_aload_n hx hb dJ0_indexOf_7cf53_29 rfl (lv_at hl 0 rfl) ?_
    refine r_callK (As := []) (rest := [.int p2, .int p1, .ref (kV o)]) S hK hE hst hP hS h0 (cw_J0_505 ht ⟨Nat.le_of_ble_eq_true rfl, Nat.le_of_ble_eq_true rfl⟩) rfl hl.1 rfl (Nat.le_of_ble_eq_true rfl) dJ0_indexOf_7cf53_30 z2 (fun _ _ h => c_J0_length_8abf5 hG  h0 h) hf (fun x2 M H locs hP hS bx2 hf => ?_)
    exact nomatch hf
  · refine lv_aload_n hx hb dJ0_indexOf_7cf53_7 rfl (lv_at hl 0 rfl) ?_
    refine vk_getf hx hb (hE.2.2.2.2.2.2.2.2.1.1 o h0).2.2.1 hS hown (ht _ k_1667) (fun _ h => h) dJ0_indexOf_7cf53_8 ?_
    refine lv_iload_n hx hb dJ0_indexOf_7cf53_11 rfl (lv_at hl 1 rfl) ?_
    refine lv_iload_n hx hb dJ0_indexOf_7cf53_12 rfl (lv_at hl 2 rfl) ?_
    refine lv_aload_n hx hb dJ0_indexOf_7cf53_13 rfl (lv_at hl 0 rfl) ?_
    refine r_callK (As := []) (rest := [.int p2, .int p1, .ref (kV o)]) S hK hE hst hP hS h0 (cw_J0_505 ht ⟨Nat.le_of_ble_eq_true rfl, Nat.le_of_ble_eq_true rfl⟩) rfl hl.1 rfl (Nat.le_of_ble_eq_true rfl) dJ0_indexOf_7cf53_14 z2 (fun _ _ h => c_J0_length_8abf5 hG  h0 h) hf (fun x3 M H locs hP hS bx3 hf => ?_)
    refine r_callS (As := [.ref (kV o), .int p1, .int p2, .int x3]) (rest := []) S hK hE hst hP hS (cw_J0_637 ht ⟨Nat.le_of_ble_eq_true rfl, Nat.le_of_ble_eq_true rfl⟩) rfl hl.1 rfl (Nat.le_of_ble_eq_true rfl) dJ0_indexOf_7cf53_17 z2 (fun _ _ h => c_J1_indexOf_4cfef hG  h0 h) hf (fun x4 M H locs hP hS bx4 hf => ?_)
    refine lv_goto (tgt := 36) hx hb dJ0_indexOf_7cf53_20 (by decide) ?_
    exact hret _ _ _ _ _ _ dJ0_indexOf_7cf53_36 hP hS rfl hf
theorem cw_J0_633 {R : Room} {s : State} {args : Array Value} (ht : ∀ w ∈ Tw, w.before args s = true) (hR : rm_J0_indexOf_7cf53.frames + 1 ≤ R.frames ∧ 8 + (3 + 11) + rm_J0_indexOf_7cf53.locals ≤ R.locals) : CallW R s args RJ0 RJ0 633 yJ0_indexOf_7cf53 cJ0_indexOf_7cf53 3 (some .int) (ws_of yJ0_indexOf_7cf53 cJ0_indexOf_7cf53 3 (some .int)) rm_J0_indexOf_7cf53 0 0 2 := cw_V 2 ht k_664 k_665 k_666 k_75 k_667 (by decide +kernel) rfl rfl hR
def f_J0_indexOf_0f7a4 (o : Nat) (p1 : Int32) (M : Mem) : Option (Int32 × Mem) :=
  bd (f_J0_indexOf_7cf53 o p1 0 M) fun x1 M =>
  some (x1, M)
def rm_J0_indexOf_0f7a4 : Room := { frames := 3, cells := 0, slots := 0, locals := 105 }
set_option maxHeartbeats 4000000 in
set_option maxRecDepth 100000 in
theorem c_J0_indexOf_0f7a4 {l : Launch} {D : va_G} {K : Ks} {ad : Nat → Nat} {A : Nat → Prop} {tC tA tP : Nat} {kK kV : Nat → Nat} (hG : Gok G1 ad A) {o : Nat} {p1 : Int32} (h0 : o < 6) {M : Mem} {r : Int32} {M' : Mem} (hf : f_J0_indexOf_0f7a4 o p1 M = some (r, M')) : Ct l (E1 A tC tA tP kK kV) D K G1 ad A yJ0_indexOf_0f7a4 (ws_of yJ0_indexOf_0f7a4 cJ0_indexOf_0f7a4 2 (some .int)) rm_J0_indexOf_0f7a4 .int [.ref (kK o), .int p1] M r M' := by
  have hst : Est A (E1 A tC tA tP kK kV) := est1
  refine Ct.ofW (by decide) (Nat.le_of_ble_eq_true rfl) ?_
  intro p e s m args below meth c Q H locs ls S hK hE hP hS hl hret
  have hx := S.1
  have hb := S.2.1
  have hown := S.2.2.2.1
  have ht := S.2.2.2.2
  have hl : lv_has ls 2 [(0, .ref (kK o)), (1, .int p1)] := hl
  unfold f_J0_indexOf_0f7a4 at hf
  refine lv_aload_n hx hb dJ0_indexOf_0f7a4_0 rfl (lv_at hl 0 rfl) ?_
  refine lv_iload_n hx hb dJ0_indexOf_0f7a4_1 rfl (lv_at hl 1 rfl) ?_
  refine lv_iconst (v := 0) hx hb dJ0_indexOf_0f7a4_2 (by decide) ?_
  refine r_callK (As := [.int p1, .int 0]) (rest := []) S hK hE hst hP hS h0 (cw_J0_633 ht ⟨Nat.le_of_ble_eq_true rfl, Nat.le_of_ble_eq_true rfl⟩) rfl hl.1 rfl (Nat.le_of_ble_eq_true rfl) dJ0_indexOf_0f7a4_3 z2 (fun _ _ h => c_J0_indexOf_7cf53 hG  h0 h) hf (fun x1 M H locs hP hS bx1 hf => ?_)
  exact hret _ _ _ _ _ _ dJ0_indexOf_0f7a4_6 hP hS rfl hf
theorem cw_X7_103 {R : Room} {s : State} {args : Array Value} (ht : ∀ w ∈ Tw, w.before args s = true) (hR : rm_J0_indexOf_0f7a4.frames + 1 ≤ R.frames ∧ 8 + (2 + 11) + rm_J0_indexOf_0f7a4.locals ≤ R.locals) : CallW R s args RX7 RJ0 103 yJ0_indexOf_0f7a4 cJ0_indexOf_0f7a4 2 (some .int) (ws_of yJ0_indexOf_0f7a4 cJ0_indexOf_0f7a4 2 (some .int)) rm_J0_indexOf_0f7a4 0 0 1 := cw_V 1 ht k_660 k_661 k_662 k_75 k_663 (by decide +kernel) rfl rfl hR
def f_X7_nameHere (o : Nat) (M : Mem) : Option (Int32 × Mem) :=
  vv (M o 10) fun x1 =>
  if x1 = 1 then
    vv (M o 9) fun x2 =>
    vv (M o 8) fun x3 =>
    if (x2 - x3) = 1 then
      vv (M o 3) fun x4 =>
      if x4 = 0 then
        vv (grf G1 o 0) fun x14 =>
        vv (M o 8) fun x15 =>
        ld M x14 x15 96 fun x16 =>
        bd (f_J0_indexOf_0f7a4 3 ((Int32.toUInt32 x16 % 65536).toInt32) M) fun x17 M =>
        some (x17, M)
      else
        vv (M o 3) fun x5 =>
        if x5 = 1 then
          vv (grf G1 o 0) fun x10 =>
          vv (M o 8) fun x11 =>
          ld M x10 x11 96 fun x12 =>
          bd (f_J0_indexOf_0f7a4 4 ((Int32.toUInt32 x12 % 65536).toInt32) M) fun x13 M =>
          some (x13, M)
        else
          vv (grf G1 o 0) fun x6 =>
          vv (M o 8) fun x7 =>
          ld M x6 x7 96 fun x8 =>
          bd (f_J0_indexOf_0f7a4 5 ((Int32.toUInt32 x8 % 65536).toInt32) M) fun x9 M =>
          some (x9, M)
    else
      some ((-1), M)
  else
    some ((-1), M)
def rm_X7_nameHere : Room := { frames := 4, cells := 0, slots := 0, locals := 126 }
set_option maxHeartbeats 4000000 in
set_option maxRecDepth 100000 in
theorem c_X7_nameHere {l : Launch} {D : va_G} {K : Ks} {ad : Nat → Nat} {A : Nat → Prop} {tC tA tP : Nat} {kK kV : Nat → Nat} (hG : Gok G1 ad A) {o : Nat} (h0 : gcl G1 o = 7) {M : Mem} {r : Int32} {M' : Mem} (hf : f_X7_nameHere o M = some (r, M')) : Ct l (E1 A tC tA tP kK kV) D K G1 ad A yX7_nameHere (ws_of yX7_nameHere cX7_nameHere 2 (some .int)) rm_X7_nameHere .int [.ref (ad o)] M r M' := by
  have hst : Est A (E1 A tC tA tP kK kV) := est1
  refine Ct.ofW (by decide) (Nat.le_of_ble_eq_true rfl) ?_
  intro p e s m args below meth c Q H locs ls S hK hE hP hS hl hret
  have hx := S.1
  have hb := S.2.1
  have hown := S.2.2.2.1
  have ht := S.2.2.2.2
  have hl : lv_has ls 2 [(0, .ref (ad o))] := hl
  unfold f_X7_nameHere at hf
  refine lv_aload_n hx hb dX7_nameHere_0 rfl (lv_at hl 0 rfl) ?_
  refine gf_X7_35 S hK hP h0 dX7_nameHere_1 hf (fun x1 hf => ?_)
  refine lv_iconst (v := 1) hx hb dX7_nameHere_4 (by decide) ?_
  refine r_icmp_ne (tgt := 21) S dX7_nameHere_5 (by decide) hf (fun hf => ?_) (fun hf => ?_)
  · refine lv_iconst (v := (-1)) hx hb dX7_nameHere_21 (by decide) ?_
    exact hret _ _ _ _ _ _ dX7_nameHere_22 hP hS rfl hf
  · refine lv_aload_n hx hb dX7_nameHere_8 rfl (lv_at hl 0 rfl) ?_
    refine gf_X7_32 S hK hP h0 dX7_nameHere_9 hf (fun x2 hf => ?_)
    refine lv_aload_n hx hb dX7_nameHere_12 rfl (lv_at hl 0 rfl) ?_
    refine gf_X7_48 S hK hP h0 dX7_nameHere_13 hf (fun x3 hf => ?_)
    refine lv_isub hx hb dX7_nameHere_16 ?_
    refine lv_iconst (v := 1) hx hb dX7_nameHere_17 (by decide) ?_
    refine r_icmp_eq (tgt := 23) S dX7_nameHere_18 (by decide) hf (fun hf => ?_) (fun hf => ?_)
    · refine lv_aload_n hx hb dX7_nameHere_23 rfl (lv_at hl 0 rfl) ?_
      refine gf_X7_55 S hK hP h0 dX7_nameHere_24 hf (fun x4 hf => ?_)
      refine r_if_ne (tgt := 35) S dX7_nameHere_27 (by decide) hf (fun hf => ?_) (fun hf => ?_)
      · refine lv_aload_n hx hb dX7_nameHere_35 rfl (lv_at hl 0 rfl) ?_
        refine gf_X7_55 S hK hP h0 dX7_nameHere_36 hf (fun x5 hf => ?_)
        refine lv_iconst (v := 1) hx hb dX7_nameHere_39 (by decide) ?_
        refine r_icmp_ne (tgt := 48) S dX7_nameHere_40 (by decide) hf (fun hf => ?_) (fun hf => ?_)
        · refine va_ldcS (tx := "cda") (q := kK 5) hx hb hown hE.2.2.2.2.2.2.2.2.2.2.2.2.2.2.2.1 dX7_nameHere_48 ?_
          refine lv_astore_n (lv' := [(1, .ref (kK 5)), (0, .ref (ad o))]) hx hb dX7_nameHere_50 rfl hl (by decide) rfl (fun ls hl => ?_)
          refine lv_aload_n hx hb dX7_nameHere_51 rfl (lv_at hl 0 rfl) ?_
          refine lv_aload_n hx hb dX7_nameHere_52 rfl (lv_at hl 1 rfl) ?_
          refine gf_X7_9 S hK hP h0 dX7_nameHere_53 hf (fun x6 hx6 hf => ?_)
          refine lv_aload_n hx hb dX7_nameHere_56 rfl (lv_at hl 1 rfl) ?_
          refine gf_X7_48 S hK hP h0 dX7_nameHere_57 hf (fun x7 hf => ?_)
          refine r_bald S hK hP hx6 dX7_nameHere_60 hf (fun x8 hf => ?_)
          refine lv_i2c (v := (Int32.toUInt32 x8 % 65536).toInt32) hx hb dX7_nameHere_61 rfl ?_
          refine r_callK (As := [.int ((Int32.toUInt32 x8 % 65536).toInt32)]) (rest := []) S hK hE hst hP hS (by decide) (cw_X7_103 ht ⟨Nat.le_of_ble_eq_true rfl, Nat.le_of_ble_eq_true rfl⟩) rfl hl.1 rfl (Nat.le_of_ble_eq_true rfl) dX7_nameHere_62 z2 (fun _ _ h => c_J0_indexOf_0f7a4 hG  (by decide) h) hf (fun x9 M H locs hP hS bx9 hf => ?_)
          exact hret _ _ _ _ _ _ dX7_nameHere_65 hP hS rfl hf
        · refine va_ldcS (tx := "ny") (q := kK 4) hx hb hown hE.2.2.2.2.2.2.2.2.2.2.2.2.2.2.1 dX7_nameHere_43 ?_
          refine lv_goto (tgt := 50) hx hb dX7_nameHere_45 (by decide) ?_
          refine lv_astore_n (lv' := [(1, .ref (kK 4)), (0, .ref (ad o))]) hx hb dX7_nameHere_50 rfl hl (by decide) rfl (fun ls hl => ?_)
          refine lv_aload_n hx hb dX7_nameHere_51 rfl (lv_at hl 0 rfl) ?_
          refine lv_aload_n hx hb dX7_nameHere_52 rfl (lv_at hl 1 rfl) ?_
          refine gf_X7_9 S hK hP h0 dX7_nameHere_53 hf (fun x10 hx10 hf => ?_)
          refine lv_aload_n hx hb dX7_nameHere_56 rfl (lv_at hl 1 rfl) ?_
          refine gf_X7_48 S hK hP h0 dX7_nameHere_57 hf (fun x11 hf => ?_)
          refine r_bald S hK hP hx10 dX7_nameHere_60 hf (fun x12 hf => ?_)
          refine lv_i2c (v := (Int32.toUInt32 x12 % 65536).toInt32) hx hb dX7_nameHere_61 rfl ?_
          refine r_callK (As := [.int ((Int32.toUInt32 x12 % 65536).toInt32)]) (rest := []) S hK hE hst hP hS (by decide) (cw_X7_103 ht ⟨Nat.le_of_ble_eq_true rfl, Nat.le_of_ble_eq_true rfl⟩) rfl hl.1 rfl (Nat.le_of_ble_eq_true rfl) dX7_nameHere_62 z2 (fun _ _ h => c_J0_indexOf_0f7a4 hG  (by decide) h) hf (fun x13 M H locs hP hS bx13 hf => ?_)
          exact hret _ _ _ _ _ _ dX7_nameHere_65 hP hS rfl hf
      · refine va_ldcS (tx := "nfi") (q := kK 3) hx hb hown hE.2.2.2.2.2.2.2.2.2.2.2.2.2.1 dX7_nameHere_30 ?_
        refine lv_goto (tgt := 50) hx hb dX7_nameHere_32 (by decide) ?_
        refine lv_astore_n (lv' := [(1, .ref (kK 3)), (0, .ref (ad o))]) hx hb dX7_nameHere_50 rfl hl (by decide) rfl (fun ls hl => ?_)
        refine lv_aload_n hx hb dX7_nameHere_51 rfl (lv_at hl 0 rfl) ?_
        refine lv_aload_n hx hb dX7_nameHere_52 rfl (lv_at hl 1 rfl) ?_
        refine gf_X7_9 S hK hP h0 dX7_nameHere_53 hf (fun x14 hx14 hf => ?_)
        refine lv_aload_n hx hb dX7_nameHere_56 rfl (lv_at hl 1 rfl) ?_
        refine gf_X7_48 S hK hP h0 dX7_nameHere_57 hf (fun x15 hf => ?_)
        refine r_bald S hK hP hx14 dX7_nameHere_60 hf (fun x16 hf => ?_)
        refine lv_i2c (v := (Int32.toUInt32 x16 % 65536).toInt32) hx hb dX7_nameHere_61 rfl ?_
        refine r_callK (As := [.int ((Int32.toUInt32 x16 % 65536).toInt32)]) (rest := []) S hK hE hst hP hS (by decide) (cw_X7_103 ht ⟨Nat.le_of_ble_eq_true rfl, Nat.le_of_ble_eq_true rfl⟩) rfl hl.1 rfl (Nat.le_of_ble_eq_true rfl) dX7_nameHere_62 z2 (fun _ _ h => c_J0_indexOf_0f7a4 hG  (by decide) h) hf (fun x17 M H locs hP hS bx17 hf => ?_)
        exact hret _ _ _ _ _ _ dX7_nameHere_65 hP hS rfl hf
    · refine lv_iconst (v := (-1)) hx hb dX7_nameHere_21 (by decide) ?_
      exact hret _ _ _ _ _ _ dX7_nameHere_22 hP hS rfl hf
theorem cw_X7_80 {R : Room} {s : State} {args : Array Value} (ht : ∀ w ∈ Tw, w.before args s = true) (hR : rm_X7_put.frames + 1 ≤ R.frames ∧ 8 + (2 + 11) + rm_X7_put.locals ≤ R.locals) : CallW R s args RX7 RX7 80 yX7_put cX7_put 2 none (ws_of yX7_put cX7_put 2 none) rm_X7_put 0 0 1 := cw_V 1 ht k_641 k_643 k_11 k_70 k_644 (by decide +kernel) rfl rfl hR
theorem cw_X7_90 {R : Room} {s : State} {args : Array Value} (ht : ∀ w ∈ Tw, w.before args s = true) (hR : rm_X7_nameHere.frames + 1 ≤ R.frames ∧ 8 + (2 + 11) + rm_X7_nameHere.locals ≤ R.locals) : CallW R s args RX7 RX7 90 yX7_nameHere cX7_nameHere 2 (some .int) (ws_of yX7_nameHere cX7_nameHere 2 (some .int)) rm_X7_nameHere 0 0 0 := cw_V 0 ht k_653 k_655 k_14 k_70 k_656 (by decide +kernel) rfl rfl hR
section
variable {p : Program} {l : Launch} {e : Env} {R : Room} {s : State} {m : MethodId} {args : Array Value} {below : List Frame} {meth : Method} {c : Code} {H : Heap} {locs : List Loc} {cells slots : Nat} {Q : State → Prop} {cc : ByteArray} {pc : Nat} {ls : Array Slot} {rest : List Value} {nL : Nat} {D : va_G} {K : Ks} {ad : Nat → Nat} {A : Nat → Prop} {M : Mem} {β : Type} {z : β}
theorem gf_X7_29 (S : CallFix p m c cc nL s args Tw RX7) (hK : va_K D classes (gty K) s) (hP : va_P D classes (gws K G1 ad M) H) {a : Nat} {kk : Int32 → Option β} (ha : gcl G1 a = 7) (hdg : decode cc pc = .ok (.getfield 29, 3)) (hf : vv (M a 5) kk = some z) (w : ∀ x, kk x = some z → W p l e R s m args below meth c H locs cells slots Q (F0 m (pc + 3) ls (.int x :: rest))) : W p l e R s m args below meth c H locs cells slots Q (F0 m pc ls (.ref (ad a) :: rest)) := r_geti S hK hP (T := TX7) inX7 rfl (by decide) (by decide) ha (sf_X7_5 ha) k_292 hdg hf w
end
section
variable {p : Program} {l : Launch} {e : Env} {R : Room} {s : State} {m : MethodId} {args : Array Value} {below : List Frame} {meth : Method} {c : Code} {H : Heap} {locs : List Loc} {cells slots : Nat} {Q : State → Prop} {cc : ByteArray} {pc : Nat} {ls : Array Slot} {rest : List Value} {nL : Nat} {D : va_G} {K : Ks} {ad : Nat → Nat} {A : Nat → Prop} {M : Mem} {β : Type} {z : β}
theorem pf_X7_29 (S : CallFix p m c cc nL s args Tw RX7) (hK : va_K D classes (gty K) s) (hG : Gok G1 ad A) (hP : va_P D classes (gws K G1 ad M) H) (hS : va_S A s.heap H locs) {a : Nat} {v : Int32} {kk : Mem → Option β} (ha : gcl G1 a = 7) (hdg : decode cc pc = .ok (.putfield 29, 3)) (hf : mm (up M a 5 v) kk = some z) (w : ∀ M H locs, va_P D classes (gws K G1 ad M) H → va_S A s.heap H locs → kk M = some z → W p l e R s m args below meth c H locs cells slots Q (F0 m (pc + 3) ls rest)) : W p l e R s m args below meth c H locs cells slots Q (F0 m pc ls (.int v :: .ref (ad a) :: rest)) := r_putt S hK hG hP hS (k := 5) (T := TX7) inX7 rfl (by decide) tyX7 tyX7_ok nmX7 (by decide) rfl rfl rfl ha (sf_X7_5 ha) k_292 hdg hf w
end
def f_X7_readLeaf (o : Nat) (M : Mem) : Option (Int32 × Mem) :=
  bd (f_X7_nameHere o M) fun x1 M =>
  bd (f_X7_isNumberHere o M) fun x2 M =>
  jn (fun (M : Mem) =>
    vv (M o 5) fun x4 =>
    mm (up M o 5 (x4 + 1)) fun M =>
    bd (f_X7_forward o M) fun _ M =>
    some (0, M)
  ) fun k3 =>
  if x2 = 0 then
    if x1 < 0 then
      vv (M o 8) fun x6 =>
      mm (up M o 2 x6) fun M =>
      some (0, M)
    else
      bd (f_X7_put o ((-1) - x1) M) fun _ M =>
      k3 M
  else
    bd (f_X7_numberHere o M) fun x8 M =>
    bd (f_X7_put o x8 M) fun _ M =>
    k3 M
def rm_X7_readLeaf : Room := { frames := 5, cells := 0, slots := 0, locals := 147 }
set_option maxHeartbeats 4000000 in
set_option maxRecDepth 100000 in
theorem c_X7_readLeaf {l : Launch} {D : va_G} {K : Ks} {ad : Nat → Nat} {A : Nat → Prop} {tC tA tP : Nat} {kK kV : Nat → Nat} (hG : Gok G1 ad A) {o : Nat} (h0 : gcl G1 o = 7) {M : Mem} {r : Int32} {M' : Mem} (hf : f_X7_readLeaf o M = some (r, M')) : Cv l (E1 A tC tA tP kK kV) D K G1 ad A yX7_readLeaf (ws_of yX7_readLeaf cX7_readLeaf 2 none) rm_X7_readLeaf [.ref (ad o)] M M' := by
  have hst : Est A (E1 A tC tA tP kK kV) := est1
  refine Cv.ofW (r := r) (by decide) (Nat.le_of_ble_eq_true rfl) ?_
  intro p e s m args below meth c Q H locs ls S hK hE hP hS hl hret
  have hx := S.1
  have hb := S.2.1
  have hown := S.2.2.2.1
  have ht := S.2.2.2.2
  have hl : lv_has ls 2 [(0, .ref (ad o))] := hl
  unfold f_X7_readLeaf at hf
  refine lv_aload_n hx hb dX7_readLeaf_0 rfl (lv_at hl 0 rfl) ?_
  refine r_callV (As := []) (rest := []) S hK hE hst hP hS h0 (by decide) rfl (cw_X7_90 ht ⟨Nat.le_of_ble_eq_true rfl, Nat.le_of_ble_eq_true rfl⟩) rfl hl.1 rfl (Nat.le_of_ble_eq_true rfl) dX7_readLeaf_1 z2 (fun _ _ h => c_X7_nameHere hG  h0 h) hf (fun x1 M H locs hP hS bx1 hf => ?_)
  refine lv_istore_n (lv' := [(1, .int x1), (0, .ref (ad o))]) hx hb dX7_readLeaf_4 rfl hl (by decide) rfl (fun ls hl => ?_)
  refine lv_aload_n hx hb dX7_readLeaf_5 rfl (lv_at hl 1 rfl) ?_
  refine r_callV (As := []) (rest := []) S hK hE hst hP hS h0 (by decide) rfl (cw_X7_62 ht ⟨Nat.le_of_ble_eq_true rfl, Nat.le_of_ble_eq_true rfl⟩) rfl hl.1 rfl (Nat.le_of_ble_eq_true rfl) dX7_readLeaf_6 z2 (fun _ _ h => c_X7_isNumberHere hG  h0 h) hf (fun x2 M H locs hP hS bx2 hf => ?_)
  obtain ⟨k3, hk3, hf⟩ := jn_w hf
  have J3 : ∀ (M : Mem) (H : Heap) (locs : List Loc) (ls : Array Slot), lv_has ls 2 [(0, .ref (ad o))] → va_P D classes (gws K G1 ad M) H → va_S A s.heap H locs → k3 M = some (r, M') → W p l e rm_X7_readLeaf s m args below meth c H locs 0 0 Q (F0 m 46 ls []) := by
    intro M H locs ls hl hP hS hf
    rw [hk3] at hf
    refine lv_aload_n hx hb dX7_readLeaf_46 rfl (lv_at hl 0 rfl) ?_
    refine lv_dup hx hb dX7_readLeaf_47 rfl ?_
    refine gf_X7_29 S hK hP h0 dX7_readLeaf_48 hf (fun x4 hf => ?_)
    refine lv_iconst (v := 1) hx hb dX7_readLeaf_51 (by decide) ?_
    refine lv_iadd hx hb dX7_readLeaf_52 ?_
    refine pf_X7_29 S hK hG hP hS h0 dX7_readLeaf_53 hf (fun M H locs hP hS hf => ?_)
    refine lv_aload_n hx hb dX7_readLeaf_56 rfl (lv_at hl 0 rfl) ?_
    refine r_callVv (As := []) (rest := []) S hK hE hst hP hS h0 (by decide) rfl (cw_X7_38 ht ⟨Nat.le_of_ble_eq_true rfl, Nat.le_of_ble_eq_true rfl⟩) rfl hl.1 rfl (Nat.le_of_ble_eq_true rfl) dX7_readLeaf_57 z2 (fun _ _ h => c_X7_forward hG  h0 h) hf (fun x5 M H locs hP hS hf => ?_)
    exact hret _ _ _ _ _ _ dX7_readLeaf_60 hP hS hf
  refine r_if_eq (tgt := 23) S dX7_readLeaf_9 (by decide) hf (fun hf => ?_) (fun hf => ?_)
  · refine lv_iload_n hx hb dX7_readLeaf_23 rfl (lv_at hl 0 rfl) ?_
    refine r_if_lt (tgt := 37) S dX7_readLeaf_24 (by decide) hf (fun hf => ?_) (fun hf => ?_)
    · refine lv_aload_n hx hb dX7_readLeaf_37 rfl (lv_at hl 1 rfl) ?_
      refine lv_aload_n hx hb dX7_readLeaf_38 rfl (lv_at hl 1 rfl) ?_
      refine gf_X7_48 S hK hP h0 dX7_readLeaf_39 hf (fun x6 hf => ?_)
      refine pf_X7_23 S hK hG hP hS h0 dX7_readLeaf_42 hf (fun M H locs hP hS hf => ?_)
      exact hret _ _ _ _ _ _ dX7_readLeaf_45 hP hS hf
    · refine lv_aload_n hx hb dX7_readLeaf_27 rfl (lv_at hl 1 rfl) ?_
      refine lv_iconst (v := (-1)) hx hb dX7_readLeaf_28 (by decide) ?_
      refine lv_iload_n hx hb dX7_readLeaf_29 rfl (lv_at hl 0 rfl) ?_
      refine lv_isub hx hb dX7_readLeaf_30 ?_
      refine r_callVv (As := [.int ((-1) - x1)]) (rest := []) S hK hE hst hP hS h0 (by decide) rfl (cw_X7_80 ht ⟨Nat.le_of_ble_eq_true rfl, Nat.le_of_ble_eq_true rfl⟩) rfl hl.1 rfl (Nat.le_of_ble_eq_true rfl) dX7_readLeaf_31 z2 (fun _ _ h => c_X7_put hG  h0 h) hf (fun x7 M H locs hP hS hf => ?_)
      refine lv_goto (tgt := 46) hx hb dX7_readLeaf_34 (by decide) ?_
      exact J3 M H locs ls (lv_sub hl [1] rfl) hP hS hf
  · refine lv_aload_n hx hb dX7_readLeaf_12 rfl (lv_at hl 1 rfl) ?_
    refine lv_aload_n hx hb dX7_readLeaf_13 rfl (lv_at hl 1 rfl) ?_
    refine r_callV (As := []) (rest := [.ref (ad o)]) S hK hE hst hP hS h0 (by decide) rfl (cw_X7_66 ht ⟨Nat.le_of_ble_eq_true rfl, Nat.le_of_ble_eq_true rfl⟩) rfl hl.1 rfl (Nat.le_of_ble_eq_true rfl) dX7_readLeaf_14 z2 (fun _ _ h => c_X7_numberHere hG  h0 h) hf (fun x8 M H locs hP hS bx8 hf => ?_)
    refine r_callVv (As := [.int x8]) (rest := []) S hK hE hst hP hS h0 (by decide) rfl (cw_X7_80 ht ⟨Nat.le_of_ble_eq_true rfl, Nat.le_of_ble_eq_true rfl⟩) rfl hl.1 rfl (Nat.le_of_ble_eq_true rfl) dX7_readLeaf_17 z2 (fun _ _ h => c_X7_put hG  h0 h) hf (fun x9 M H locs hP hS hf => ?_)
    refine lv_goto (tgt := 46) hx hb dX7_readLeaf_20 (by decide) ?_
    exact J3 M H locs ls (lv_sub hl [1] rfl) hP hS hf
def f_X7_joins (p0 : Int32) (p1 : Int32) (M : Mem) : Option (Int32 × Mem) :=
  if p1 = 38 then
    if p0 = 1 then
      some (1, M)
    else
      some (0, M)
  else
  if p1 = 42 then
    if p0 = 4 then
      some (1, M)
    else
      some (0, M)
  else
  if p1 = 43 then
    if p0 = 3 then
      some (1, M)
    else
      some (0, M)
  else
  if p1 = 45 then
    if p0 = 3 then
      some (1, M)
    else
      some (0, M)
  else
  if p1 = 47 then
    if p0 = 4 then
      some (1, M)
    else
      some (0, M)
  else
  if p1 = 60 then
    if p0 = 2 then
      some (1, M)
    else
      some (0, M)
  else
  if p1 = 61 then
    if p0 = 2 then
      some (1, M)
    else
      some (0, M)
  else
  if p1 = 62 then
    if p0 = 2 then
      some (1, M)
    else
      some (0, M)
  else
  if p1 = 124 then
    if p0 = 0 then
      some (1, M)
    else
      some (0, M)
  else
  some (0, M)
def rm_X7_joins : Room := { frames := 0, cells := 0, slots := 0, locals := 0 }
set_option maxHeartbeats 4000000 in
set_option maxRecDepth 100000 in
theorem c_X7_joins {l : Launch} {D : va_G} {K : Ks} {ad : Nat → Nat} {A : Nat → Prop} {tC tA tP : Nat} {kK kV : Nat → Nat} (hG : Gok G1 ad A) {p0 : Int32} {p1 : Int32}  {M : Mem} {r : Int32} {M' : Mem} (hf : f_X7_joins p0 p1 M = some (r, M')) : Ct l (E1 A tC tA tP kK kV) D K G1 ad A yX7_joins (ws_of yX7_joins cX7_joins 2 (some .boolean)) rm_X7_joins .boolean [.int p0, .int p1] M r M' := by
  have hst : Est A (E1 A tC tA tP kK kV) := est1
  refine Ct.ofW (by decide) (Nat.le_of_ble_eq_true rfl) ?_
  intro p e s m args below meth c Q H locs ls S hK hE hP hS hl hret
  have hx := S.1
  have hb := S.2.1
  have hown := S.2.2.2.1
  have ht := S.2.2.2.2
  have hl : lv_has ls 2 [(0, .int p0), (1, .int p1)] := hl
  unfold f_X7_joins at hf
  refine lv_iload_n hx hb dX7_joins_0 rfl (lv_at hl 1 rfl) ?_
  refine r_case hf (fun e1 hf => ?_) (fun n2 hf => ?_)
  · refine lv_lookup (x := p1) (off := 93) (tgt := 94) hx hb dX7_joins_1 (by decide) (by rw [e1] <;> rfl) (by decide) ?_
    refine lv_iload_n hx hb dX7_joins_94 rfl (lv_at hl 0 rfl) ?_
    refine lv_iconst (v := 1) hx hb dX7_joins_95 (by decide) ?_
    refine r_icmp_ne (tgt := 103) S dX7_joins_96 (by decide) hf (fun hf => ?_) (fun hf => ?_)
    · refine lv_iconst (v := 0) hx hb dX7_joins_103 (by decide) ?_
      exact hret _ _ _ _ _ _ dX7_joins_104 hP hS rfl hf
    · refine lv_iconst (v := 1) hx hb dX7_joins_99 (by decide) ?_
      refine lv_goto (tgt := 104) hx hb dX7_joins_100 (by decide) ?_
      exact hret _ _ _ _ _ _ dX7_joins_104 hP hS rfl hf
  refine r_case hf (fun e3 hf => ?_) (fun n4 hf => ?_)
  · refine lv_lookup (x := p1) (off := 126) (tgt := 127) hx hb dX7_joins_1 (by decide) (by rw [e3] <;> rfl) (by decide) ?_
    refine lv_iload_n hx hb dX7_joins_127 rfl (lv_at hl 0 rfl) ?_
    refine lv_iconst (v := 4) hx hb dX7_joins_128 (by decide) ?_
    refine r_icmp_ne (tgt := 136) S dX7_joins_129 (by decide) hf (fun hf => ?_) (fun hf => ?_)
    · refine lv_iconst (v := 0) hx hb dX7_joins_136 (by decide) ?_
      exact hret _ _ _ _ _ _ dX7_joins_137 hP hS rfl hf
    · refine lv_iconst (v := 1) hx hb dX7_joins_132 (by decide) ?_
      refine lv_goto (tgt := 137) hx hb dX7_joins_133 (by decide) ?_
      exact hret _ _ _ _ _ _ dX7_joins_137 hP hS rfl hf
  refine r_case hf (fun e5 hf => ?_) (fun n6 hf => ?_)
  · refine lv_lookup (x := p1) (off := 115) (tgt := 116) hx hb dX7_joins_1 (by decide) (by rw [e5] <;> rfl) (by decide) ?_
    refine lv_iload_n hx hb dX7_joins_116 rfl (lv_at hl 0 rfl) ?_
    refine lv_iconst (v := 3) hx hb dX7_joins_117 (by decide) ?_
    refine r_icmp_ne (tgt := 125) S dX7_joins_118 (by decide) hf (fun hf => ?_) (fun hf => ?_)
    · refine lv_iconst (v := 0) hx hb dX7_joins_125 (by decide) ?_
      exact hret _ _ _ _ _ _ dX7_joins_126 hP hS rfl hf
    · refine lv_iconst (v := 1) hx hb dX7_joins_121 (by decide) ?_
      refine lv_goto (tgt := 126) hx hb dX7_joins_122 (by decide) ?_
      exact hret _ _ _ _ _ _ dX7_joins_126 hP hS rfl hf
  refine r_case hf (fun e7 hf => ?_) (fun n8 hf => ?_)
  · refine lv_lookup (x := p1) (off := 115) (tgt := 116) hx hb dX7_joins_1 (by decide) (by rw [e7] <;> rfl) (by decide) ?_
    refine lv_iload_n hx hb dX7_joins_116 rfl (lv_at hl 0 rfl) ?_
    refine lv_iconst (v := 3) hx hb dX7_joins_117 (by decide) ?_
    refine r_icmp_ne (tgt := 125) S dX7_joins_118 (by decide) hf (fun hf => ?_) (fun hf => ?_)
    · refine lv_iconst (v := 0) hx hb dX7_joins_125 (by decide) ?_
      exact hret _ _ _ _ _ _ dX7_joins_126 hP hS rfl hf
    · refine lv_iconst (v := 1) hx hb dX7_joins_121 (by decide) ?_
      refine lv_goto (tgt := 126) hx hb dX7_joins_122 (by decide) ?_
      exact hret _ _ _ _ _ _ dX7_joins_126 hP hS rfl hf
  refine r_case hf (fun e9 hf => ?_) (fun n10 hf => ?_)
  · refine lv_lookup (x := p1) (off := 126) (tgt := 127) hx hb dX7_joins_1 (by decide) (by rw [e9] <;> rfl) (by decide) ?_
    refine lv_iload_n hx hb dX7_joins_127 rfl (lv_at hl 0 rfl) ?_
    refine lv_iconst (v := 4) hx hb dX7_joins_128 (by decide) ?_
    refine r_icmp_ne (tgt := 136) S dX7_joins_129 (by decide) hf (fun hf => ?_) (fun hf => ?_)
    · refine lv_iconst (v := 0) hx hb dX7_joins_136 (by decide) ?_
      exact hret _ _ _ _ _ _ dX7_joins_137 hP hS rfl hf
    · refine lv_iconst (v := 1) hx hb dX7_joins_132 (by decide) ?_
      refine lv_goto (tgt := 137) hx hb dX7_joins_133 (by decide) ?_
      exact hret _ _ _ _ _ _ dX7_joins_137 hP hS rfl hf
  refine r_case hf (fun e11 hf => ?_) (fun n12 hf => ?_)
  · refine lv_lookup (x := p1) (off := 104) (tgt := 105) hx hb dX7_joins_1 (by decide) (by rw [e11] <;> rfl) (by decide) ?_
    refine lv_iload_n hx hb dX7_joins_105 rfl (lv_at hl 0 rfl) ?_
    refine lv_iconst (v := 2) hx hb dX7_joins_106 (by decide) ?_
    refine r_icmp_ne (tgt := 114) S dX7_joins_107 (by decide) hf (fun hf => ?_) (fun hf => ?_)
    · refine lv_iconst (v := 0) hx hb dX7_joins_114 (by decide) ?_
      exact hret _ _ _ _ _ _ dX7_joins_115 hP hS rfl hf
    · refine lv_iconst (v := 1) hx hb dX7_joins_110 (by decide) ?_
      refine lv_goto (tgt := 115) hx hb dX7_joins_111 (by decide) ?_
      exact hret _ _ _ _ _ _ dX7_joins_115 hP hS rfl hf
  refine r_case hf (fun e13 hf => ?_) (fun n14 hf => ?_)
  · refine lv_lookup (x := p1) (off := 104) (tgt := 105) hx hb dX7_joins_1 (by decide) (by rw [e13] <;> rfl) (by decide) ?_
    refine lv_iload_n hx hb dX7_joins_105 rfl (lv_at hl 0 rfl) ?_
    refine lv_iconst (v := 2) hx hb dX7_joins_106 (by decide) ?_
    refine r_icmp_ne (tgt := 114) S dX7_joins_107 (by decide) hf (fun hf => ?_) (fun hf => ?_)
    · refine lv_iconst (v := 0) hx hb dX7_joins_114 (by decide) ?_
      exact hret _ _ _ _ _ _ dX7_joins_115 hP hS rfl hf
    · refine lv_iconst (v := 1) hx hb dX7_joins_110 (by decide) ?_
      refine lv_goto (tgt := 115) hx hb dX7_joins_111 (by decide) ?_
      exact hret _ _ _ _ _ _ dX7_joins_115 hP hS rfl hf
  refine r_case hf (fun e15 hf => ?_) (fun n16 hf => ?_)
  · refine lv_lookup (x := p1) (off := 104) (tgt := 105) hx hb dX7_joins_1 (by decide) (by rw [e15] <;> rfl) (by decide) ?_
    refine lv_iload_n hx hb dX7_joins_105 rfl (lv_at hl 0 rfl) ?_
    refine lv_iconst (v := 2) hx hb dX7_joins_106 (by decide) ?_
    refine r_icmp_ne (tgt := 114) S dX7_joins_107 (by decide) hf (fun hf => ?_) (fun hf => ?_)
    · refine lv_iconst (v := 0) hx hb dX7_joins_114 (by decide) ?_
      exact hret _ _ _ _ _ _ dX7_joins_115 hP hS rfl hf
    · refine lv_iconst (v := 1) hx hb dX7_joins_110 (by decide) ?_
      refine lv_goto (tgt := 115) hx hb dX7_joins_111 (by decide) ?_
      exact hret _ _ _ _ _ _ dX7_joins_115 hP hS rfl hf
  refine r_case hf (fun e17 hf => ?_) (fun n18 hf => ?_)
  · refine lv_lookup (x := p1) (off := 83) (tgt := 84) hx hb dX7_joins_1 (by decide) (by rw [e17] <;> rfl) (by decide) ?_
    refine lv_iload_n hx hb dX7_joins_84 rfl (lv_at hl 0 rfl) ?_
    refine r_if_ne (tgt := 92) S dX7_joins_85 (by decide) hf (fun hf => ?_) (fun hf => ?_)
    · refine lv_iconst (v := 0) hx hb dX7_joins_92 (by decide) ?_
      exact hret _ _ _ _ _ _ dX7_joins_93 hP hS rfl hf
    · refine lv_iconst (v := 1) hx hb dX7_joins_88 (by decide) ?_
      refine lv_goto (tgt := 93) hx hb dX7_joins_89 (by decide) ?_
      exact hret _ _ _ _ _ _ dX7_joins_93 hP hS rfl hf
  refine lv_lookup (x := p1) (off := 137) (tgt := 138) hx hb dX7_joins_1 (by decide) (by show Op.lookupswitch.offset [(38, 93), (42, 126), (43, 115), (45, 115), (47, 126), (60, 104), (61, 104), (62, 104), (124, 83)] _ _ = _; rw [lv_osw n2 (by decide), lv_osw n4 (by decide), lv_osw n6 (by decide), lv_osw n8 (by decide), lv_osw n10 (by decide), lv_osw n12 (by decide), lv_osw n14 (by decide), lv_osw n16 (by decide), lv_osw n18 (by decide)] <;> rfl) (by decide) ?_
  refine lv_iconst (v := 0) hx hb dX7_joins_138 (by decide) ?_
  exact hret _ _ _ _ _ _ dX7_joins_139 hP hS rfl hf
theorem cwg_X7_44 {R : Room} {s : State} {args : Array Value} {rm : Room} (hrm : rm.cells = 0 ∧ rm.slots = 0) (ht : ∀ w ∈ Tw, w.before args s = true) (hR : rm.frames + 1 ≤ R.frames ∧ 8 + (7 + 11) + rm.locals ≤ R.locals) : CallW R s args RX7 RX7 44 yX7_readLevel cX7_readLevel 7 none (ws_of yX7_readLevel cX7_readLevel 7 none) rm 0 0 3 := cw_V 3 ht k_629 k_631 k_8 k_70 k_632 (by decide +kernel) hrm.1 hrm.2 hR
theorem cwg_X7_69 {R : Room} {s : State} {args : Array Value} {rm : Room} (hrm : rm.cells = 0 ∧ rm.slots = 0) (ht : ∀ w ∈ Tw, w.before args s = true) (hR : rm.frames + 1 ≤ R.frames ∧ 8 + (4 + 11) + rm.locals ≤ R.locals) : CallW R s args RX7 RX7 69 yX7_readPiece cX7_readPiece 4 none (ws_of yX7_readPiece cX7_readPiece 4 none) rm 0 0 2 := cw_V 2 ht k_633 k_635 k_9 k_70 k_636 (by decide +kernel) hrm.1 hrm.2 hR
theorem cw_X7_76 {R : Room} {s : State} {args : Array Value} (ht : ∀ w ∈ Tw, w.before args s = true) (hR : rm_X7_joins.frames + 1 ≤ R.frames ∧ 8 + (2 + 11) + rm_X7_joins.locals ≤ R.locals) : CallB R s args RX7 76 yX7_joins cX7_joins 2 (some .boolean) (ws_of yX7_joins cX7_joins 2 (some .boolean)) rm_X7_joins 0 0 2 ∧ (Cond.static yX7_joins).before args s = true := cw_S 2 ht k_719 k_720 k_70 k_721 (by decide +kernel) rfl rfl hR
section
variable {p : Program} {l : Launch} {e : Env} {R : Room} {s : State} {m : MethodId} {args : Array Value} {below : List Frame} {meth : Method} {c : Code} {H : Heap} {locs : List Loc} {cells slots : Nat} {Q : State → Prop} {cc : ByteArray} {pc : Nat} {ls : Array Slot} {rest : List Value} {nL : Nat} {D : va_G} {K : Ks} {ad : Nat → Nat} {A : Nat → Prop} {M : Mem} {β : Type} {z : β}
theorem gf_X7_23 (S : CallFix p m c cc nL s args Tw RX7) (hK : va_K D classes (gty K) s) (hP : va_P D classes (gws K G1 ad M) H) {a : Nat} {kk : Int32 → Option β} (ha : gcl G1 a = 7) (hdg : decode cc pc = .ok (.getfield 23, 3)) (hf : vv (M a 2) kk = some z) (w : ∀ x, kk x = some z → W p l e R s m args below meth c H locs cells slots Q (F0 m (pc + 3) ls (.int x :: rest))) : W p l e R s m args below meth c H locs cells slots Q (F0 m pc ls (.ref (ad a) :: rest)) := r_geti S hK hP (T := TX7) inX7 rfl (by decide) (by decide) ha (sf_X7_2 ha) k_286 hdg hf w
end
def F_X7_readLevel (g_X7_readLevel : Nat → Int32 → Int32 → Int32 → Mem → Option (Int32 × Mem)) (g_X7_readPiece : Nat → Int32 → Int32 → Mem → Option (Int32 × Mem)) (o : Nat) (p1 : Int32) (p2 : Int32) (p3 : Int32) (M : Mem) : Option (Int32 × Mem) :=
  if p1 < 5 then
    bd (g_X7_readLevel o (p1 + 1) p2 p3 M) fun _ M =>
    if p1 = 2 then
      it1 (fun rc12 (v11 : Int32) M =>
        if v11 < 1 then
          vv (M o 2) fun x13 =>
          if x13 < 0 then
            bd (f_X7_signHere o M) fun x14 M =>
            bd (f_X7_joins p1 x14 M) fun x15 M =>
            if x15 = 0 then
              some (0, M)
            else
              bd (f_X7_signHere o M) fun x16 M =>
              bd (f_X7_forward o M) fun _ M =>
              bd (g_X7_readLevel o (p1 + 1) p2 p3 M) fun _ M =>
              bd (f_X7_put o (-x16) M) fun _ M =>
              rc12 (v11 + 1) M
          else
            some (0, M)
        else
          some (0, M)
      ) fuel 0 M
    else
      it1 (fun rc3 (v2 : Int32) M =>
        if v2 < 96 then
          vv (M o 2) fun x4 =>
          if x4 < 0 then
            bd (f_X7_signHere o M) fun x5 M =>
            bd (f_X7_joins p1 x5 M) fun x6 M =>
            if x6 = 0 then
              some (0, M)
            else
              bd (f_X7_signHere o M) fun x7 M =>
              bd (f_X7_forward o M) fun _ M =>
              bd (g_X7_readLevel o (p1 + 1) p2 p3 M) fun _ M =>
              bd (f_X7_put o (-x7) M) fun _ M =>
              rc3 (v2 + 1) M
          else
            some (0, M)
        else
          some (0, M)
      ) fuel 0 M
  else
    bd (g_X7_readPiece o p2 p3 M) fun _ M =>
    some (0, M)
theorem cw_X7_84 {R : Room} {s : State} {args : Array Value} (ht : ∀ w ∈ Tw, w.before args s = true) (hR : rm_X7_readClosing.frames + 1 ≤ R.frames ∧ 8 + (1 + 11) + rm_X7_readClosing.locals ≤ R.locals) : CallW R s args RX7 RX7 84 yX7_readClosing cX7_readClosing 1 none (ws_of yX7_readClosing cX7_readClosing 1 none) rm_X7_readClosing 0 0 0 := cw_V 0 ht k_645 k_647 k_12 k_70 k_648 (by decide +kernel) rfl rfl hR
theorem cw_X7_87 {R : Room} {s : State} {args : Array Value} (ht : ∀ w ∈ Tw, w.before args s = true) (hR : rm_X7_readLeaf.frames + 1 ≤ R.frames ∧ 8 + (2 + 11) + rm_X7_readLeaf.locals ≤ R.locals) : CallW R s args RX7 RX7 87 yX7_readLeaf cX7_readLeaf 2 none (ws_of yX7_readLeaf cX7_readLeaf 2 none) rm_X7_readLeaf 0 0 0 := cw_V 0 ht k_649 k_651 k_13 k_70 k_652 (by decide +kernel) rfl rfl hR
def F_X7_readPiece (g_X7_readLevel : Nat → Int32 → Int32 → Int32 → Mem → Option (Int32 × Mem)) (g_X7_readPiece : Nat → Int32 → Int32 → Mem → Option (Int32 × Mem)) (o : Nat) (p1 : Int32) (p2 : Int32) (M : Mem) : Option (Int32 × Mem) :=
  bd (f_X7_signHere o M) fun x1 M =>
  jn (fun (M : Mem) =>
    jn (fun (M : Mem) =>
      bd (f_X7_readLeaf o M) fun _ M =>
      some (0, M)
    ) fun k3 =>
    if x1 = 40 then
      if p1 < 8 then
        bd (f_X7_forward o M) fun _ M =>
        bd (g_X7_readLevel o 0 (p1 + 1) p2 M) fun _ M =>
        vv (M o 2) fun x7 =>
        if x7 < 0 then
          bd (f_X7_readClosing o M) fun _ M =>
          some (0, M)
        else
          some (0, M)
      else
        k3 M
    else
      k3 M
  ) fun k2 =>
  if x1 = 33 then
    if p2 < 8 then
      bd (f_X7_forward o M) fun _ M =>
      bd (g_X7_readPiece o p1 (p2 + 1) M) fun _ M =>
      bd (f_X7_put o (-x1) M) fun _ M =>
      some (0, M)
    else
      k2 M
  else
    k2 M
set_option maxHeartbeats 4000000 in
set_option maxRecDepth 100000 in
theorem co_X7_readLevel {l : Launch} {D : va_G} {K : Ks} {ad : Nat → Nat} {A : Nat → Prop} {tC tA tP : Nat} {kK kV : Nat → Nat} (hG : Gok G1 ad A) {d : Nat} {g_X7_readLevel : Nat → Int32 → Int32 → Int32 → Mem → Option (Int32 × Mem)} {g_X7_readPiece : Nat → Int32 → Int32 → Mem → Option (Int32 × Mem)} (hg_X7_readLevel : ∀ (o : Nat) (p1 : Int32) (p2 : Int32) (p3 : Int32), gcl G1 o = 7 → ∀ {M : Mem} {r : Int32} {M' : Mem}, g_X7_readLevel o p1 p2 p3 M = some (r, M') → Cv l (E1 A tC tA tP kK kV) D K G1 ad A yX7_readLevel (ws_of yX7_readLevel cX7_readLevel 7 none) (rmD 12 400 d) [.ref (ad o), .int p1, .int p2, .int p3] M M') (hg_X7_readPiece : ∀ (o : Nat) (p1 : Int32) (p2 : Int32), gcl G1 o = 7 → ∀ {M : Mem} {r : Int32} {M' : Mem}, g_X7_readPiece o p1 p2 M = some (r, M') → Cv l (E1 A tC tA tP kK kV) D K G1 ad A yX7_readPiece (ws_of yX7_readPiece cX7_readPiece 4 none) (rmD 12 400 d) [.ref (ad o), .int p1, .int p2] M M') {o : Nat} {p1 : Int32} {p2 : Int32} {p3 : Int32} (h0 : gcl G1 o = 7) {M : Mem} {r : Int32} {M' : Mem} (hf : F_X7_readLevel g_X7_readLevel g_X7_readPiece o p1 p2 p3 M = some (r, M')) : Cv l (E1 A tC tA tP kK kV) D K G1 ad A yX7_readLevel (ws_of yX7_readLevel cX7_readLevel 7 none) (rmD 12 400 (d + 1)) [.ref (ad o), .int p1, .int p2, .int p3] M M' := by
  have hst : Est A (E1 A tC tA tP kK kV) := est1
  refine Cv.ofW (r := r) (by decide) (Nat.le_of_ble_eq_true rfl) ?_
  intro p e s m args below meth c Q H locs ls S hK hE hP hS hl hret
  have hx := S.1
  have hb := S.2.1
  have hown := S.2.2.2.1
  have ht := S.2.2.2.2
  have hl : lv_has ls 7 [(0, .ref (ad o)), (1, .int p1), (2, .int p2), (3, .int p3)] := hl
  unfold F_X7_readLevel at hf
  refine lv_iload_n hx hb dX7_readLevel_0 rfl (lv_at hl 1 rfl) ?_
  refine lv_iconst (v := 5) hx hb dX7_readLevel_1 (by decide) ?_
  refine r_icmp_lt (tgt := 12) S dX7_readLevel_2 (by decide) hf (fun hf => ?_) (fun hf => ?_)
  · refine lv_aload_n hx hb dX7_readLevel_12 rfl (lv_at hl 0 rfl) ?_
    refine lv_iload_n hx hb dX7_readLevel_13 rfl (lv_at hl 1 rfl) ?_
    refine lv_iconst (v := 1) hx hb dX7_readLevel_14 (by decide) ?_
    refine lv_iadd hx hb dX7_readLevel_15 ?_
    refine lv_iload_n hx hb dX7_readLevel_16 rfl (lv_at hl 2 rfl) ?_
    refine lv_iload_n hx hb dX7_readLevel_17 rfl (lv_at hl 3 rfl) ?_
    refine r_callVv (As := [.int (p1 + 1), .int p2, .int p3]) (rest := []) S hK hE hst hP hS h0 (by decide) rfl (cwg_X7_44 ⟨rfl, rfl⟩ ht (rdg (by decide))) rfl hl.1 rfl (Nat.le_of_ble_eq_true rfl) dX7_readLevel_18 z2 (fun _ _ h => hg_X7_readLevel _ _ _ _ h0 h) hf (fun x1 M H locs hP hS hf => ?_)
    refine lv_iload_n hx hb dX7_readLevel_21 rfl (lv_at hl 1 rfl) ?_
    refine lv_iconst (v := 2) hx hb dX7_readLevel_22 (by decide) ?_
    refine r_icmp_ne (tgt := 30) S dX7_readLevel_23 (by decide) hf (fun hf => ?_) (fun hf => ?_)
    · refine lv_bipush (v := 96) hx hb dX7_readLevel_30 (by decide) ?_
      refine lv_istore (lv' := [(4, .int 96), (0, .ref (ad o)), (1, .int p1), (2, .int p2), (3, .int p3)]) hx hb dX7_readLevel_32 hl (by decide) rfl (fun ls hl => ?_)
      refine lv_iconst (v := 0) hx hb dX7_readLevel_34 (by decide) ?_
      refine lv_istore (lv' := [(5, .int 0), (4, .int 96), (0, .ref (ad o)), (1, .int p1), (2, .int p2), (3, .int p3)]) hx hb dX7_readLevel_35 hl (by decide) rfl (fun ls hl => ?_)
      obtain ⟨F3, hF3, hf⟩ := it1_g hf
      have L3 : ∀ (n : Nat) (v2 : Int32) (M : Mem) (H : Heap) (locs : List Loc) (ls : Array Slot), lv_has ls 7 [(0, .ref (ad o)), (1, .int p1), (2, .int p2), (3, .int p3), (4, .int 96), (5, .int v2)] → va_P D classes (gws K G1 ad M) H → va_S A s.heap H locs → it1 F3 n v2 M = some (r, M') → W p l e (rmD 12 400 (d + 1)) s m args below meth c H locs 0 0 Q (F0 m 37 ls []) := by
        intro n
        induction n with
        | zero => intro v2 M H locs ls hl hP hS hf; exact nomatch hf
        | succ n ih3 =>
          intro v2 M H locs ls hl hP hS hf
          obtain ⟨rc3, hrc3, hf⟩ := it1_w hf
          rw [← hrc3] at ih3
          rw [hF3] at hf
          refine lv_iload hx hb dX7_readLevel_37 (lv_at hl 5 rfl) ?_
          refine lv_iload hx hb dX7_readLevel_39 (lv_at hl 4 rfl) ?_
          refine r_icmp_ge (tgt := 94) S dX7_readLevel_41 (by decide) hf (fun hf => ?_) (fun hf => ?_)
          · exact hret _ _ _ _ _ _ dX7_readLevel_94 hP hS hf
          · refine lv_aload_n hx hb dX7_readLevel_44 rfl (lv_at hl 0 rfl) ?_
            refine gf_X7_23 S hK hP h0 dX7_readLevel_45 hf (fun x4 hf => ?_)
            refine r_if_ge (tgt := 94) S dX7_readLevel_48 (by decide) hf (fun hf => ?_) (fun hf => ?_)
            · exact hret _ _ _ _ _ _ dX7_readLevel_94 hP hS hf
            · refine lv_iload_n hx hb dX7_readLevel_51 rfl (lv_at hl 1 rfl) ?_
              refine lv_aload_n hx hb dX7_readLevel_52 rfl (lv_at hl 0 rfl) ?_
              refine r_callV (As := []) (rest := [.int p1]) S hK hE hst hP hS h0 (by decide) rfl (cw_X7_73 ht ⟨rdf (Nat.le_of_ble_eq_true rfl), rdl (Nat.le_of_ble_eq_true rfl)⟩) rfl hl.1 rfl (Nat.le_of_ble_eq_true rfl) dX7_readLevel_53 z2 (fun _ _ h => c_X7_signHere hG  h0 h) hf (fun x5 M H locs hP hS bx5 hf => ?_)
              refine r_callS (As := [.int p1, .int x5]) (rest := []) S hK hE hst hP hS (cw_X7_76 ht ⟨rdf (Nat.le_of_ble_eq_true rfl), rdl (Nat.le_of_ble_eq_true rfl)⟩) rfl hl.1 rfl (Nat.le_of_ble_eq_true rfl) dX7_readLevel_56 z2 (fun _ _ h => c_X7_joins hG  h) hf (fun x6 M H locs hP hS bx6 hf => ?_)
              refine r_if_eq (tgt := 94) S dX7_readLevel_59 (by decide) hf (fun hf => ?_) (fun hf => ?_)
              · exact hret _ _ _ _ _ _ dX7_readLevel_94 hP hS hf
              · refine lv_aload_n hx hb dX7_readLevel_62 rfl (lv_at hl 0 rfl) ?_
                refine r_callV (As := []) (rest := []) S hK hE hst hP hS h0 (by decide) rfl (cw_X7_73 ht ⟨rdf (Nat.le_of_ble_eq_true rfl), rdl (Nat.le_of_ble_eq_true rfl)⟩) rfl hl.1 rfl (Nat.le_of_ble_eq_true rfl) dX7_readLevel_63 z2 (fun _ _ h => c_X7_signHere hG  h0 h) hf (fun x7 M H locs hP hS bx7 hf => ?_)
                refine lv_istore (lv' := [(6, .int x7), (0, .ref (ad o)), (1, .int p1), (2, .int p2), (3, .int p3), (4, .int 96), (5, .int v2)]) hx hb dX7_readLevel_66 hl (by decide) rfl (fun ls hl => ?_)
                refine lv_aload_n hx hb dX7_readLevel_68 rfl (lv_at hl 1 rfl) ?_
                refine r_callVv (As := []) (rest := []) S hK hE hst hP hS h0 (by decide) rfl (cw_X7_38 ht ⟨rdf (Nat.le_of_ble_eq_true rfl), rdl (Nat.le_of_ble_eq_true rfl)⟩) rfl hl.1 rfl (Nat.le_of_ble_eq_true rfl) dX7_readLevel_69 z2 (fun _ _ h => c_X7_forward hG  h0 h) hf (fun x8 M H locs hP hS hf => ?_)
                refine lv_aload_n hx hb dX7_readLevel_72 rfl (lv_at hl 1 rfl) ?_
                refine lv_iload_n hx hb dX7_readLevel_73 rfl (lv_at hl 2 rfl) ?_
                refine lv_iconst (v := 1) hx hb dX7_readLevel_74 (by decide) ?_
                refine lv_iadd hx hb dX7_readLevel_75 ?_
                refine lv_iload_n hx hb dX7_readLevel_76 rfl (lv_at hl 3 rfl) ?_
                refine lv_iload_n hx hb dX7_readLevel_77 rfl (lv_at hl 4 rfl) ?_
                refine r_callVv (As := [.int (p1 + 1), .int p2, .int p3]) (rest := []) S hK hE hst hP hS h0 (by decide) rfl (cwg_X7_44 ⟨rfl, rfl⟩ ht (rdg (by decide))) rfl hl.1 rfl (Nat.le_of_ble_eq_true rfl) dX7_readLevel_78 z2 (fun _ _ h => hg_X7_readLevel _ _ _ _ h0 h) hf (fun x9 M H locs hP hS hf => ?_)
                refine lv_aload_n hx hb dX7_readLevel_81 rfl (lv_at hl 1 rfl) ?_
                refine lv_iload hx hb dX7_readLevel_82 (lv_at hl 0 rfl) ?_
                refine lv_ineg hx hb dX7_readLevel_84 ?_
                refine r_callVv (As := [.int (-x7)]) (rest := []) S hK hE hst hP hS h0 (by decide) rfl (cw_X7_80 ht ⟨rdf (Nat.le_of_ble_eq_true rfl), rdl (Nat.le_of_ble_eq_true rfl)⟩) rfl hl.1 rfl (Nat.le_of_ble_eq_true rfl) dX7_readLevel_85 z2 (fun _ _ h => c_X7_put hG  h0 h) hf (fun x10 M H locs hP hS hf => ?_)
                refine lv_iinc (v := (v2 + 1)) (lv' := [(5, .int (v2 + 1)), (6, .int x7), (0, .ref (ad o)), (1, .int p1), (2, .int p2), (3, .int p3), (4, .int 96)]) hx hb dX7_readLevel_88 hl (k := 6) rfl rfl (by decide) rfl (fun ls hl => ?_)
                refine lv_goto (tgt := 37) hx hb dX7_readLevel_91 (by decide) ?_
                exact ih3 (v2 + 1) M H locs ls (lv_sub hl [2, 3, 4, 5, 6, 0] rfl) hP hS hf
      exact L3 _ 0 M H locs ls (lv_sub hl [2, 3, 4, 5, 1, 0] rfl) hP hS hf
    · refine lv_iconst (v := 1) hx hb dX7_readLevel_26 (by decide) ?_
      refine lv_goto (tgt := 32) hx hb dX7_readLevel_27 (by decide) ?_
      refine lv_istore (lv' := [(4, .int 1), (0, .ref (ad o)), (1, .int p1), (2, .int p2), (3, .int p3)]) hx hb dX7_readLevel_32 hl (by decide) rfl (fun ls hl => ?_)
      refine lv_iconst (v := 0) hx hb dX7_readLevel_34 (by decide) ?_
      refine lv_istore (lv' := [(5, .int 0), (4, .int 1), (0, .ref (ad o)), (1, .int p1), (2, .int p2), (3, .int p3)]) hx hb dX7_readLevel_35 hl (by decide) rfl (fun ls hl => ?_)
      obtain ⟨F12, hF12, hf⟩ := it1_g hf
      have L12 : ∀ (n : Nat) (v11 : Int32) (M : Mem) (H : Heap) (locs : List Loc) (ls : Array Slot), lv_has ls 7 [(0, .ref (ad o)), (1, .int p1), (2, .int p2), (3, .int p3), (4, .int 1), (5, .int v11)] → va_P D classes (gws K G1 ad M) H → va_S A s.heap H locs → it1 F12 n v11 M = some (r, M') → W p l e (rmD 12 400 (d + 1)) s m args below meth c H locs 0 0 Q (F0 m 37 ls []) := by
        intro n
        induction n with
        | zero => intro v11 M H locs ls hl hP hS hf; exact nomatch hf
        | succ n ih12 =>
          intro v11 M H locs ls hl hP hS hf
          obtain ⟨rc12, hrc12, hf⟩ := it1_w hf
          rw [← hrc12] at ih12
          rw [hF12] at hf
          refine lv_iload hx hb dX7_readLevel_37 (lv_at hl 5 rfl) ?_
          refine lv_iload hx hb dX7_readLevel_39 (lv_at hl 4 rfl) ?_
          refine r_icmp_ge (tgt := 94) S dX7_readLevel_41 (by decide) hf (fun hf => ?_) (fun hf => ?_)
          · exact hret _ _ _ _ _ _ dX7_readLevel_94 hP hS hf
          · refine lv_aload_n hx hb dX7_readLevel_44 rfl (lv_at hl 0 rfl) ?_
            refine gf_X7_23 S hK hP h0 dX7_readLevel_45 hf (fun x13 hf => ?_)
            refine r_if_ge (tgt := 94) S dX7_readLevel_48 (by decide) hf (fun hf => ?_) (fun hf => ?_)
            · exact hret _ _ _ _ _ _ dX7_readLevel_94 hP hS hf
            · refine lv_iload_n hx hb dX7_readLevel_51 rfl (lv_at hl 1 rfl) ?_
              refine lv_aload_n hx hb dX7_readLevel_52 rfl (lv_at hl 0 rfl) ?_
              refine r_callV (As := []) (rest := [.int p1]) S hK hE hst hP hS h0 (by decide) rfl (cw_X7_73 ht ⟨rdf (Nat.le_of_ble_eq_true rfl), rdl (Nat.le_of_ble_eq_true rfl)⟩) rfl hl.1 rfl (Nat.le_of_ble_eq_true rfl) dX7_readLevel_53 z2 (fun _ _ h => c_X7_signHere hG  h0 h) hf (fun x14 M H locs hP hS bx14 hf => ?_)
              refine r_callS (As := [.int p1, .int x14]) (rest := []) S hK hE hst hP hS (cw_X7_76 ht ⟨rdf (Nat.le_of_ble_eq_true rfl), rdl (Nat.le_of_ble_eq_true rfl)⟩) rfl hl.1 rfl (Nat.le_of_ble_eq_true rfl) dX7_readLevel_56 z2 (fun _ _ h => c_X7_joins hG  h) hf (fun x15 M H locs hP hS bx15 hf => ?_)
              refine r_if_eq (tgt := 94) S dX7_readLevel_59 (by decide) hf (fun hf => ?_) (fun hf => ?_)
              · exact hret _ _ _ _ _ _ dX7_readLevel_94 hP hS hf
              · refine lv_aload_n hx hb dX7_readLevel_62 rfl (lv_at hl 0 rfl) ?_
                refine r_callV (As := []) (rest := []) S hK hE hst hP hS h0 (by decide) rfl (cw_X7_73 ht ⟨rdf (Nat.le_of_ble_eq_true rfl), rdl (Nat.le_of_ble_eq_true rfl)⟩) rfl hl.1 rfl (Nat.le_of_ble_eq_true rfl) dX7_readLevel_63 z2 (fun _ _ h => c_X7_signHere hG  h0 h) hf (fun x16 M H locs hP hS bx16 hf => ?_)
                refine lv_istore (lv' := [(6, .int x16), (0, .ref (ad o)), (1, .int p1), (2, .int p2), (3, .int p3), (4, .int 1), (5, .int v11)]) hx hb dX7_readLevel_66 hl (by decide) rfl (fun ls hl => ?_)
                refine lv_aload_n hx hb dX7_readLevel_68 rfl (lv_at hl 1 rfl) ?_
                refine r_callVv (As := []) (rest := []) S hK hE hst hP hS h0 (by decide) rfl (cw_X7_38 ht ⟨rdf (Nat.le_of_ble_eq_true rfl), rdl (Nat.le_of_ble_eq_true rfl)⟩) rfl hl.1 rfl (Nat.le_of_ble_eq_true rfl) dX7_readLevel_69 z2 (fun _ _ h => c_X7_forward hG  h0 h) hf (fun x17 M H locs hP hS hf => ?_)
                refine lv_aload_n hx hb dX7_readLevel_72 rfl (lv_at hl 1 rfl) ?_
                refine lv_iload_n hx hb dX7_readLevel_73 rfl (lv_at hl 2 rfl) ?_
                refine lv_iconst (v := 1) hx hb dX7_readLevel_74 (by decide) ?_
                refine lv_iadd hx hb dX7_readLevel_75 ?_
                refine lv_iload_n hx hb dX7_readLevel_76 rfl (lv_at hl 3 rfl) ?_
                refine lv_iload_n hx hb dX7_readLevel_77 rfl (lv_at hl 4 rfl) ?_
                refine r_callVv (As := [.int (p1 + 1), .int p2, .int p3]) (rest := []) S hK hE hst hP hS h0 (by decide) rfl (cwg_X7_44 ⟨rfl, rfl⟩ ht (rdg (by decide))) rfl hl.1 rfl (Nat.le_of_ble_eq_true rfl) dX7_readLevel_78 z2 (fun _ _ h => hg_X7_readLevel _ _ _ _ h0 h) hf (fun x18 M H locs hP hS hf => ?_)
                refine lv_aload_n hx hb dX7_readLevel_81 rfl (lv_at hl 1 rfl) ?_
                refine lv_iload hx hb dX7_readLevel_82 (lv_at hl 0 rfl) ?_
                refine lv_ineg hx hb dX7_readLevel_84 ?_
                refine r_callVv (As := [.int (-x16)]) (rest := []) S hK hE hst hP hS h0 (by decide) rfl (cw_X7_80 ht ⟨rdf (Nat.le_of_ble_eq_true rfl), rdl (Nat.le_of_ble_eq_true rfl)⟩) rfl hl.1 rfl (Nat.le_of_ble_eq_true rfl) dX7_readLevel_85 z2 (fun _ _ h => c_X7_put hG  h0 h) hf (fun x19 M H locs hP hS hf => ?_)
                refine lv_iinc (v := (v11 + 1)) (lv' := [(5, .int (v11 + 1)), (6, .int x16), (0, .ref (ad o)), (1, .int p1), (2, .int p2), (3, .int p3), (4, .int 1)]) hx hb dX7_readLevel_88 hl (k := 6) rfl rfl (by decide) rfl (fun ls hl => ?_)
                refine lv_goto (tgt := 37) hx hb dX7_readLevel_91 (by decide) ?_
                exact ih12 (v11 + 1) M H locs ls (lv_sub hl [2, 3, 4, 5, 6, 0] rfl) hP hS hf
      exact L12 _ 0 M H locs ls (lv_sub hl [2, 3, 4, 5, 1, 0] rfl) hP hS hf
  · refine lv_aload_n hx hb dX7_readLevel_5 rfl (lv_at hl 0 rfl) ?_
    refine lv_iload_n hx hb dX7_readLevel_6 rfl (lv_at hl 2 rfl) ?_
    refine lv_iload_n hx hb dX7_readLevel_7 rfl (lv_at hl 3 rfl) ?_
    refine r_callVv (As := [.int p2, .int p3]) (rest := []) S hK hE hst hP hS h0 (by decide) rfl (cwg_X7_69 ⟨rfl, rfl⟩ ht (rdg (by decide))) rfl hl.1 rfl (Nat.le_of_ble_eq_true rfl) dX7_readLevel_8 z2 (fun _ _ h => hg_X7_readPiece _ _ _ h0 h) hf (fun x20 M H locs hP hS hf => ?_)
    exact hret _ _ _ _ _ _ dX7_readLevel_11 hP hS hf
set_option maxHeartbeats 4000000 in
set_option maxRecDepth 100000 in
theorem co_X7_readPiece {l : Launch} {D : va_G} {K : Ks} {ad : Nat → Nat} {A : Nat → Prop} {tC tA tP : Nat} {kK kV : Nat → Nat} (hG : Gok G1 ad A) {d : Nat} {g_X7_readLevel : Nat → Int32 → Int32 → Int32 → Mem → Option (Int32 × Mem)} {g_X7_readPiece : Nat → Int32 → Int32 → Mem → Option (Int32 × Mem)} (hg_X7_readLevel : ∀ (o : Nat) (p1 : Int32) (p2 : Int32) (p3 : Int32), gcl G1 o = 7 → ∀ {M : Mem} {r : Int32} {M' : Mem}, g_X7_readLevel o p1 p2 p3 M = some (r, M') → Cv l (E1 A tC tA tP kK kV) D K G1 ad A yX7_readLevel (ws_of yX7_readLevel cX7_readLevel 7 none) (rmD 12 400 d) [.ref (ad o), .int p1, .int p2, .int p3] M M') (hg_X7_readPiece : ∀ (o : Nat) (p1 : Int32) (p2 : Int32), gcl G1 o = 7 → ∀ {M : Mem} {r : Int32} {M' : Mem}, g_X7_readPiece o p1 p2 M = some (r, M') → Cv l (E1 A tC tA tP kK kV) D K G1 ad A yX7_readPiece (ws_of yX7_readPiece cX7_readPiece 4 none) (rmD 12 400 d) [.ref (ad o), .int p1, .int p2] M M') {o : Nat} {p1 : Int32} {p2 : Int32} (h0 : gcl G1 o = 7) {M : Mem} {r : Int32} {M' : Mem} (hf : F_X7_readPiece g_X7_readLevel g_X7_readPiece o p1 p2 M = some (r, M')) : Cv l (E1 A tC tA tP kK kV) D K G1 ad A yX7_readPiece (ws_of yX7_readPiece cX7_readPiece 4 none) (rmD 12 400 (d + 1)) [.ref (ad o), .int p1, .int p2] M M' := by
  have hst : Est A (E1 A tC tA tP kK kV) := est1
  refine Cv.ofW (r := r) (by decide) (Nat.le_of_ble_eq_true rfl) ?_
  intro p e s m args below meth c Q H locs ls S hK hE hP hS hl hret
  have hx := S.1
  have hb := S.2.1
  have hown := S.2.2.2.1
  have ht := S.2.2.2.2
  have hl : lv_has ls 4 [(0, .ref (ad o)), (1, .int p1), (2, .int p2)] := hl
  unfold F_X7_readPiece at hf
  refine lv_aload_n hx hb dX7_readPiece_0 rfl (lv_at hl 0 rfl) ?_
  refine r_callV (As := []) (rest := []) S hK hE hst hP hS h0 (by decide) rfl (cw_X7_73 ht ⟨rdf (Nat.le_of_ble_eq_true rfl), rdl (Nat.le_of_ble_eq_true rfl)⟩) rfl hl.1 rfl (Nat.le_of_ble_eq_true rfl) dX7_readPiece_1 z2 (fun _ _ h => c_X7_signHere hG  h0 h) hf (fun x1 M H locs hP hS bx1 hf => ?_)
  refine lv_istore_n (lv' := [(3, .int x1), (0, .ref (ad o)), (1, .int p1), (2, .int p2)]) hx hb dX7_readPiece_4 rfl hl (by decide) rfl (fun ls hl => ?_)
  refine lv_iload_n hx hb dX7_readPiece_5 rfl (lv_at hl 0 rfl) ?_
  refine lv_bipush (v := 33) hx hb dX7_readPiece_6 (by decide) ?_
  obtain ⟨k2, hk2, hf⟩ := jn_w hf
  have J2 : ∀ (M : Mem) (H : Heap) (locs : List Loc) (ls : Array Slot), lv_has ls 4 [(0, .ref (ad o)), (1, .int p1), (2, .int p2), (3, .int x1)] → va_P D classes (gws K G1 ad M) H → va_S A s.heap H locs → k2 M = some (r, M') → W p l e (rmD 12 400 (d + 1)) s m args below meth c H locs 0 0 Q (F0 m 38 ls []) := by
    intro M H locs ls hl hP hS hf
    rw [hk2] at hf
    refine lv_iload_n hx hb dX7_readPiece_38 rfl (lv_at hl 3 rfl) ?_
    refine lv_bipush (v := 40) hx hb dX7_readPiece_39 (by decide) ?_
    obtain ⟨k3, hk3, hf⟩ := jn_w hf
    have J3 : ∀ (M : Mem) (H : Heap) (locs : List Loc) (ls : Array Slot), lv_has ls 4 [(0, .ref (ad o))] → va_P D classes (gws K G1 ad M) H → va_S A s.heap H locs → k3 M = some (r, M') → W p l e (rmD 12 400 (d + 1)) s m args below meth c H locs 0 0 Q (F0 m 77 ls []) := by
      intro M H locs ls hl hP hS hf
      rw [hk3] at hf
      refine lv_aload_n hx hb dX7_readPiece_77 rfl (lv_at hl 0 rfl) ?_
      refine r_callVv (As := []) (rest := []) S hK hE hst hP hS h0 (by decide) rfl (cw_X7_87 ht ⟨rdf (Nat.le_of_ble_eq_true rfl), rdl (Nat.le_of_ble_eq_true rfl)⟩) rfl hl.1 rfl (Nat.le_of_ble_eq_true rfl) dX7_readPiece_78 z2 (fun _ _ h => c_X7_readLeaf hG  h0 h) hf (fun x4 M H locs hP hS hf => ?_)
      exact hret _ _ _ _ _ _ dX7_readPiece_81 hP hS hf
    refine r_icmp_ne (tgt := 77) S dX7_readPiece_41 (by decide) hf (fun hf => ?_) (fun hf => ?_)
    · exact J3 M H locs ls (lv_sub hl [0] rfl) hP hS hf
    · refine lv_iload_n hx hb dX7_readPiece_44 rfl (lv_at hl 1 rfl) ?_
      refine lv_bipush (v := 8) hx hb dX7_readPiece_45 (by decide) ?_
      refine r_icmp_ge (tgt := 77) S dX7_readPiece_47 (by decide) hf (fun hf => ?_) (fun hf => ?_)
      · exact J3 M H locs ls (lv_sub hl [0] rfl) hP hS hf
      · refine lv_aload_n hx hb dX7_readPiece_50 rfl (lv_at hl 0 rfl) ?_
        refine r_callVv (As := []) (rest := []) S hK hE hst hP hS h0 (by decide) rfl (cw_X7_38 ht ⟨rdf (Nat.le_of_ble_eq_true rfl), rdl (Nat.le_of_ble_eq_true rfl)⟩) rfl hl.1 rfl (Nat.le_of_ble_eq_true rfl) dX7_readPiece_51 z2 (fun _ _ h => c_X7_forward hG  h0 h) hf (fun x5 M H locs hP hS hf => ?_)
        refine lv_aload_n hx hb dX7_readPiece_54 rfl (lv_at hl 0 rfl) ?_
        refine lv_iconst (v := 0) hx hb dX7_readPiece_55 (by decide) ?_
        refine lv_iload_n hx hb dX7_readPiece_56 rfl (lv_at hl 1 rfl) ?_
        refine lv_iconst (v := 1) hx hb dX7_readPiece_57 (by decide) ?_
        refine lv_iadd hx hb dX7_readPiece_58 ?_
        refine lv_iload_n hx hb dX7_readPiece_59 rfl (lv_at hl 2 rfl) ?_
        refine r_callVv (As := [.int 0, .int (p1 + 1), .int p2]) (rest := []) S hK hE hst hP hS h0 (by decide) rfl (cwg_X7_44 ⟨rfl, rfl⟩ ht (rdg (by decide))) rfl hl.1 rfl (Nat.le_of_ble_eq_true rfl) dX7_readPiece_60 z2 (fun _ _ h => hg_X7_readLevel _ _ _ _ h0 h) hf (fun x6 M H locs hP hS hf => ?_)
        refine lv_aload_n hx hb dX7_readPiece_63 rfl (lv_at hl 0 rfl) ?_
        refine gf_X7_23 S hK hP h0 dX7_readPiece_64 hf (fun x7 hf => ?_)
        refine r_if_ge (tgt := 81) S dX7_readPiece_67 (by decide) hf (fun hf => ?_) (fun hf => ?_)
        · exact hret _ _ _ _ _ _ dX7_readPiece_81 hP hS hf
        · refine lv_aload_n hx hb dX7_readPiece_70 rfl (lv_at hl 0 rfl) ?_
          refine r_callVv (As := []) (rest := []) S hK hE hst hP hS h0 (by decide) rfl (cw_X7_84 ht ⟨rdf (Nat.le_of_ble_eq_true rfl), rdl (Nat.le_of_ble_eq_true rfl)⟩) rfl hl.1 rfl (Nat.le_of_ble_eq_true rfl) dX7_readPiece_71 z2 (fun _ _ h => c_X7_readClosing hG  h0 h) hf (fun x8 M H locs hP hS hf => ?_)
          refine lv_goto (tgt := 81) hx hb dX7_readPiece_74 (by decide) ?_
          exact hret _ _ _ _ _ _ dX7_readPiece_81 hP hS hf
  refine r_icmp_ne (tgt := 38) S dX7_readPiece_8 (by decide) hf (fun hf => ?_) (fun hf => ?_)
  · exact J2 M H locs ls (lv_sub hl [1, 2, 3, 0] rfl) hP hS hf
  · refine lv_iload_n hx hb dX7_readPiece_11 rfl (lv_at hl 3 rfl) ?_
    refine lv_bipush (v := 8) hx hb dX7_readPiece_12 (by decide) ?_
    refine r_icmp_ge (tgt := 38) S dX7_readPiece_14 (by decide) hf (fun hf => ?_) (fun hf => ?_)
    · exact J2 M H locs ls (lv_sub hl [1, 2, 3, 0] rfl) hP hS hf
    · refine lv_aload_n hx hb dX7_readPiece_17 rfl (lv_at hl 1 rfl) ?_
      refine r_callVv (As := []) (rest := []) S hK hE hst hP hS h0 (by decide) rfl (cw_X7_38 ht ⟨rdf (Nat.le_of_ble_eq_true rfl), rdl (Nat.le_of_ble_eq_true rfl)⟩) rfl hl.1 rfl (Nat.le_of_ble_eq_true rfl) dX7_readPiece_18 z2 (fun _ _ h => c_X7_forward hG  h0 h) hf (fun x9 M H locs hP hS hf => ?_)
      refine lv_aload_n hx hb dX7_readPiece_21 rfl (lv_at hl 1 rfl) ?_
      refine lv_iload_n hx hb dX7_readPiece_22 rfl (lv_at hl 2 rfl) ?_
      refine lv_iload_n hx hb dX7_readPiece_23 rfl (lv_at hl 3 rfl) ?_
      refine lv_iconst (v := 1) hx hb dX7_readPiece_24 (by decide) ?_
      refine lv_iadd hx hb dX7_readPiece_25 ?_
      refine r_callVv (As := [.int p1, .int (p2 + 1)]) (rest := []) S hK hE hst hP hS h0 (by decide) rfl (cwg_X7_69 ⟨rfl, rfl⟩ ht (rdg (by decide))) rfl hl.1 rfl (Nat.le_of_ble_eq_true rfl) dX7_readPiece_26 z2 (fun _ _ h => hg_X7_readPiece _ _ _ h0 h) hf (fun x10 M H locs hP hS hf => ?_)
      refine lv_aload_n hx hb dX7_readPiece_29 rfl (lv_at hl 1 rfl) ?_
      refine lv_iload_n hx hb dX7_readPiece_30 rfl (lv_at hl 0 rfl) ?_
      refine lv_ineg hx hb dX7_readPiece_31 ?_
      refine r_callVv (As := [.int (-x1)]) (rest := []) S hK hE hst hP hS h0 (by decide) rfl (cw_X7_80 ht ⟨rdf (Nat.le_of_ble_eq_true rfl), rdl (Nat.le_of_ble_eq_true rfl)⟩) rfl hl.1 rfl (Nat.le_of_ble_eq_true rfl) dX7_readPiece_32 z2 (fun _ _ h => c_X7_put hG  h0 h) hf (fun x11 M H locs hP hS hf => ?_)
      refine lv_goto (tgt := 81) hx hb dX7_readPiece_35 (by decide) ?_
      exact hret _ _ _ _ _ _ dX7_readPiece_81 hP hS hf
def GP_rl : Nat → (Nat → Int32 → Int32 → Int32 → Mem → Option (Int32 × Mem)) × (Nat → Int32 → Int32 → Mem → Option (Int32 × Mem))
  | 0 => (fun _ _ _ _ _ => none, fun _ _ _ _ => none)
  | d + 1 => (F_X7_readLevel ((GP_rl d).1) ((GP_rl d).2), F_X7_readPiece ((GP_rl d).1) ((GP_rl d).2))
theorem cg_rl {l : Launch} {D : va_G} {K : Ks} {ad : Nat → Nat} {A : Nat → Prop} {tC tA tP : Nat} {kK kV : Nat → Nat} (hG : Gok G1 ad A) : ∀ d : Nat, (∀ (o : Nat) (p1 : Int32) (p2 : Int32) (p3 : Int32), gcl G1 o = 7 → ∀ {M : Mem} {r : Int32} {M' : Mem}, (GP_rl d).1 o p1 p2 p3 M = some (r, M') → Cv l (E1 A tC tA tP kK kV) D K G1 ad A yX7_readLevel (ws_of yX7_readLevel cX7_readLevel 7 none) (rmD 12 400 d) [.ref (ad o), .int p1, .int p2, .int p3] M M') ∧ (∀ (o : Nat) (p1 : Int32) (p2 : Int32), gcl G1 o = 7 → ∀ {M : Mem} {r : Int32} {M' : Mem}, (GP_rl d).2 o p1 p2 M = some (r, M') → Cv l (E1 A tC tA tP kK kV) D K G1 ad A yX7_readPiece (ws_of yX7_readPiece cX7_readPiece 4 none) (rmD 12 400 d) [.ref (ad o), .int p1, .int p2] M M') := by
  intro d
  induction d with
  | zero => exact ⟨(by intros; next hf => exact nomatch hf), (by intros; next hf => exact nomatch hf)⟩
  | succ d ih => exact ⟨(by intro o p1 p2 p3 h0 M r M' hf; exact co_X7_readLevel hG (ih.1) (ih.2) h0 hf), (by intro o p1 p2 h0 M r M' hf; exact co_X7_readPiece hG (ih.1) (ih.2) h0 hf)⟩
def f_X7_readLevel (o : Nat) (p1 : Int32) (p2 : Int32) (p3 : Int32) (M : Mem) : Option (Int32 × Mem) := (GP_rl 100).1 o p1 p2 p3 M
def rm_X7_readLevel : Room := { frames := 112, cells := 0, slots := 0, locals := 8400 }
theorem c_X7_readLevel {l : Launch} {D : va_G} {K : Ks} {ad : Nat → Nat} {A : Nat → Prop} {tC tA tP : Nat} {kK kV : Nat → Nat} (hG : Gok G1 ad A) {o : Nat} {p1 : Int32} {p2 : Int32} {p3 : Int32} (h0 : gcl G1 o = 7) {M : Mem} {r : Int32} {M' : Mem} (hf : f_X7_readLevel o p1 p2 p3 M = some (r, M')) : Cv l (E1 A tC tA tP kK kV) D K G1 ad A yX7_readLevel (ws_of yX7_readLevel cX7_readLevel 7 none) rm_X7_readLevel [.ref (ad o), .int p1, .int p2, .int p3] M M' := (cg_rl hG 100).1 o p1 p2 p3 h0 hf
def f_X7_readPiece (o : Nat) (p1 : Int32) (p2 : Int32) (M : Mem) : Option (Int32 × Mem) := (GP_rl 100).2 o p1 p2 M
def rm_X7_readPiece : Room := { frames := 112, cells := 0, slots := 0, locals := 8400 }
theorem c_X7_readPiece {l : Launch} {D : va_G} {K : Ks} {ad : Nat → Nat} {A : Nat → Prop} {tC tA tP : Nat} {kK kV : Nat → Nat} (hG : Gok G1 ad A) {o : Nat} {p1 : Int32} {p2 : Int32} (h0 : gcl G1 o = 7) {M : Mem} {r : Int32} {M' : Mem} (hf : f_X7_readPiece o p1 p2 M = some (r, M')) : Cv l (E1 A tC tA tP kK kV) D K G1 ad A yX7_readPiece (ws_of yX7_readPiece cX7_readPiece 4 none) rm_X7_readPiece [.ref (ad o), .int p1, .int p2] M M' := (cg_rl hG 100).2 o p1 p2 h0 hf
theorem cw_X7_41 {R : Room} {s : State} {args : Array Value} (ht : ∀ w ∈ Tw, w.before args s = true) (hR : rm_X7_readHead.frames + 1 ≤ R.frames ∧ 8 + (1 + 11) + rm_X7_readHead.locals ≤ R.locals) : CallW R s args RX7 RX7 41 yX7_readHead cX7_readHead 1 none (ws_of yX7_readHead cX7_readHead 1 none) rm_X7_readHead 0 0 0 := cw_V 0 ht k_557 k_559 k_3 k_70 k_560 (by decide +kernel) rfl rfl hR
theorem cw_X7_44 {R : Room} {s : State} {args : Array Value} (ht : ∀ w ∈ Tw, w.before args s = true) (hR : rm_X7_readLevel.frames + 1 ≤ R.frames ∧ 8 + (7 + 11) + rm_X7_readLevel.locals ≤ R.locals) : CallW R s args RX7 RX7 44 yX7_readLevel cX7_readLevel 7 none (ws_of yX7_readLevel cX7_readLevel 7 none) rm_X7_readLevel 0 0 3 := cw_V 3 ht k_629 k_631 k_8 k_70 k_632 (by decide +kernel) rfl rfl hR
def f_X7_readText (o : Nat) (M : Mem) : Option (Int32 × Mem) :=
  mm (up M o 2 (-1)) fun M =>
  mm (up M o 7 0) fun M =>
  mm (up M o 5 0) fun M =>
  mm (up M o 9 0) fun M =>
  mm (up M o 10 3) fun M =>
  bd (f_X7_forward o M) fun _ M =>
  bd (f_X7_readHead o M) fun _ M =>
  vv (M o 2) fun x3 =>
  jn (fun (M : Mem) =>
    vv (M o 2) fun x5 =>
    if x5 < 0 then
      vv (M o 10) fun x6 =>
      if x6 = 0 then
        some (0, M)
      else
        vv (M o 8) fun x7 =>
        mm (up M o 2 x7) fun M =>
        some (0, M)
    else
      some (0, M)
  ) fun k4 =>
  if x3 < 0 then
    bd (f_X7_readLevel o 0 0 0 M) fun _ M =>
    k4 M
  else
    k4 M
def rm_X7_readText : Room := { frames := 113, cells := 0, slots := 0, locals := 8426 }
set_option maxHeartbeats 4000000 in
set_option maxRecDepth 100000 in
theorem c_X7_readText {l : Launch} {D : va_G} {K : Ks} {ad : Nat → Nat} {A : Nat → Prop} {tC tA tP : Nat} {kK kV : Nat → Nat} (hG : Gok G1 ad A) {o : Nat} (h0 : gcl G1 o = 7) {M : Mem} {r : Int32} {M' : Mem} (hf : f_X7_readText o M = some (r, M')) : Cv l (E1 A tC tA tP kK kV) D K G1 ad A yX7_readText (ws_of yX7_readText cX7_readText 1 none) rm_X7_readText [.ref (ad o)] M M' := by
  have hst : Est A (E1 A tC tA tP kK kV) := est1
  refine Cv.ofW (r := r) (by decide) (Nat.le_of_ble_eq_true rfl) ?_
  intro p e s m args below meth c Q H locs ls S hK hE hP hS hl hret
  have hx := S.1
  have hb := S.2.1
  have hown := S.2.2.2.1
  have ht := S.2.2.2.2
  have hl : lv_has ls 1 [(0, .ref (ad o))] := hl
  unfold f_X7_readText at hf
  refine lv_aload_n hx hb dX7_readText_0 rfl (lv_at hl 0 rfl) ?_
  refine lv_iconst (v := (-1)) hx hb dX7_readText_1 (by decide) ?_
  refine pf_X7_23 S hK hG hP hS h0 dX7_readText_2 hf (fun M H locs hP hS hf => ?_)
  refine lv_aload_n hx hb dX7_readText_5 rfl (lv_at hl 0 rfl) ?_
  refine lv_iconst (v := 0) hx hb dX7_readText_6 (by decide) ?_
  refine pf_X7_26 S hK hG hP hS h0 dX7_readText_7 hf (fun M H locs hP hS hf => ?_)
  refine lv_aload_n hx hb dX7_readText_10 rfl (lv_at hl 0 rfl) ?_
  refine lv_iconst (v := 0) hx hb dX7_readText_11 (by decide) ?_
  refine pf_X7_29 S hK hG hP hS h0 dX7_readText_12 hf (fun M H locs hP hS hf => ?_)
  refine lv_aload_n hx hb dX7_readText_15 rfl (lv_at hl 0 rfl) ?_
  refine lv_iconst (v := 0) hx hb dX7_readText_16 (by decide) ?_
  refine pf_X7_32 S hK hG hP hS h0 dX7_readText_17 hf (fun M H locs hP hS hf => ?_)
  refine lv_aload_n hx hb dX7_readText_20 rfl (lv_at hl 0 rfl) ?_
  refine lv_iconst (v := 3) hx hb dX7_readText_21 (by decide) ?_
  refine pf_X7_35 S hK hG hP hS h0 dX7_readText_22 hf (fun M H locs hP hS hf => ?_)
  refine lv_aload_n hx hb dX7_readText_25 rfl (lv_at hl 0 rfl) ?_
  refine r_callVv (As := []) (rest := []) S hK hE hst hP hS h0 (by decide) rfl (cw_X7_38 ht ⟨Nat.le_of_ble_eq_true rfl, Nat.le_of_ble_eq_true rfl⟩) rfl hl.1 rfl (Nat.le_of_ble_eq_true rfl) dX7_readText_26 z2 (fun _ _ h => c_X7_forward hG  h0 h) hf (fun x1 M H locs hP hS hf => ?_)
  refine lv_aload_n hx hb dX7_readText_29 rfl (lv_at hl 0 rfl) ?_
  refine r_callVv (As := []) (rest := []) S hK hE hst hP hS h0 (by decide) rfl (cw_X7_41 ht ⟨Nat.le_of_ble_eq_true rfl, Nat.le_of_ble_eq_true rfl⟩) rfl hl.1 rfl (Nat.le_of_ble_eq_true rfl) dX7_readText_30 z2 (fun _ _ h => c_X7_readHead hG  h0 h) hf (fun x2 M H locs hP hS hf => ?_)
  refine lv_aload_n hx hb dX7_readText_33 rfl (lv_at hl 0 rfl) ?_
  refine gf_X7_23 S hK hP h0 dX7_readText_34 hf (fun x3 hf => ?_)
  obtain ⟨k4, hk4, hf⟩ := jn_w hf
  have J4 : ∀ (M : Mem) (H : Heap) (locs : List Loc) (ls : Array Slot), lv_has ls 1 [(0, .ref (ad o))] → va_P D classes (gws K G1 ad M) H → va_S A s.heap H locs → k4 M = some (r, M') → W p l e rm_X7_readText s m args below meth c H locs 0 0 Q (F0 m 47 ls []) := by
    intro M H locs ls hl hP hS hf
    rw [hk4] at hf
    refine lv_aload_n hx hb dX7_readText_47 rfl (lv_at hl 0 rfl) ?_
    refine gf_X7_23 S hK hP h0 dX7_readText_48 hf (fun x5 hf => ?_)
    refine r_if_ge (tgt := 69) S dX7_readText_51 (by decide) hf (fun hf => ?_) (fun hf => ?_)
    · exact hret _ _ _ _ _ _ dX7_readText_69 hP hS hf
    · refine lv_aload_n hx hb dX7_readText_54 rfl (lv_at hl 0 rfl) ?_
      refine gf_X7_35 S hK hP h0 dX7_readText_55 hf (fun x6 hf => ?_)
      refine r_if_eq (tgt := 69) S dX7_readText_58 (by decide) hf (fun hf => ?_) (fun hf => ?_)
      · exact hret _ _ _ _ _ _ dX7_readText_69 hP hS hf
      · refine lv_aload_n hx hb dX7_readText_61 rfl (lv_at hl 0 rfl) ?_
        refine lv_aload_n hx hb dX7_readText_62 rfl (lv_at hl 0 rfl) ?_
        refine gf_X7_48 S hK hP h0 dX7_readText_63 hf (fun x7 hf => ?_)
        refine pf_X7_23 S hK hG hP hS h0 dX7_readText_66 hf (fun M H locs hP hS hf => ?_)
        exact hret _ _ _ _ _ _ dX7_readText_69 hP hS hf
  refine r_if_ge (tgt := 47) S dX7_readText_37 (by decide) hf (fun hf => ?_) (fun hf => ?_)
  · exact J4 M H locs ls (lv_sub hl [0] rfl) hP hS hf
  · refine lv_aload_n hx hb dX7_readText_40 rfl (lv_at hl 0 rfl) ?_
    refine lv_iconst (v := 0) hx hb dX7_readText_41 (by decide) ?_
    refine lv_iconst (v := 0) hx hb dX7_readText_42 (by decide) ?_
    refine lv_iconst (v := 0) hx hb dX7_readText_43 (by decide) ?_
    refine r_callVv (As := [.int 0, .int 0, .int 0]) (rest := []) S hK hE hst hP hS h0 (by decide) rfl (cw_X7_44 ht ⟨Nat.le_of_ble_eq_true rfl, Nat.le_of_ble_eq_true rfl⟩) rfl hl.1 rfl (Nat.le_of_ble_eq_true rfl) dX7_readText_44 z2 (fun _ _ h => c_X7_readLevel hG  h0 h) hf (fun x8 M H locs hP hS hf => ?_)
    exact J4 M H locs ls (lv_sub hl [0] rfl) hP hS hf
section
variable {p : Program} {l : Launch} {e : Env} {R : Room} {s : State} {m : MethodId} {args : Array Value} {below : List Frame} {meth : Method} {c : Code} {H : Heap} {locs : List Loc} {cells slots : Nat} {Q : State → Prop} {cc : ByteArray} {pc : Nat} {ls : Array Slot} {rest : List Value} {nL : Nat} {D : va_G} {K : Ks} {ad : Nat → Nat} {A : Nat → Prop} {M : Mem} {β : Type} {z : β}
theorem gf_X8_41 (S : CallFix p m c cc nL s args Tw RX8) (hK : va_K D classes (gty K) s) (hP : va_P D classes (gws K G1 ad M) H) {a : Nat} {kk : Int32 → Option β} (ha : gcl G1 a = 7) (hdg : decode cc pc = .ok (.getfield 41, 3)) (hf : vv (M a 3) kk = some z) (w : ∀ x, kk x = some z → W p l e R s m args below meth c H locs cells slots Q (F0 m (pc + 3) ls (.int x :: rest))) : W p l e R s m args below meth c H locs cells slots Q (F0 m pc ls (.ref (ad a) :: rest)) := r_geti S hK hP (T := TX7) inX7 rfl (by decide) (by decide) ha (sf_X7_3 ha) k_288 hdg hf w
end
section
variable {p : Program} {l : Launch} {e : Env} {R : Room} {s : State} {m : MethodId} {args : Array Value} {below : List Frame} {meth : Method} {c : Code} {H : Heap} {locs : List Loc} {cells slots : Nat} {Q : State → Prop} {cc : ByteArray} {pc : Nat} {ls : Array Slot} {rest : List Value} {nL : Nat} {D : va_G} {K : Ks} {ad : Nat → Nat} {A : Nat → Prop} {M : Mem} {β : Type} {z : β}
theorem gf_X8_45 (S : CallFix p m c cc nL s args Tw RX8) (hK : va_K D classes (gty K) s) (hP : va_P D classes (gws K G1 ad M) H) {a : Nat} {kk : Int32 → Option β} (ha : gcl G1 a = 7) (hdg : decode cc pc = .ok (.getfield 45, 3)) (hf : vv (M a 4) kk = some z) (w : ∀ x, kk x = some z → W p l e R s m args below meth c H locs cells slots Q (F0 m (pc + 3) ls (.int x :: rest))) : W p l e R s m args below meth c H locs cells slots Q (F0 m pc ls (.ref (ad a) :: rest)) := r_geti S hK hP (T := TX7) inX7 rfl (by decide) (by decide) ha (sf_X7_4 ha) k_290 hdg hf w
end
section
variable {p : Program} {l : Launch} {e : Env} {R : Room} {s : State} {m : MethodId} {args : Array Value} {below : List Frame} {meth : Method} {c : Code} {H : Heap} {locs : List Loc} {cells slots : Nat} {Q : State → Prop} {cc : ByteArray} {pc : Nat} {ls : Array Slot} {rest : List Value} {nL : Nat} {D : va_G} {K : Ks} {ad : Nat → Nat} {A : Nat → Prop} {M : Mem} {β : Type} {z : β}
theorem gf_X8_47 (S : CallFix p m c cc nL s args Tw RX8) (hK : va_K D classes (gty K) s) (hP : va_P D classes (gws K G1 ad M) H) {a : Nat} {kk : Int32 → Option β} (ha : gcl G1 a = 7) (hdg : decode cc pc = .ok (.getfield 47, 3)) (hf : vv (M a 5) kk = some z) (w : ∀ x, kk x = some z → W p l e R s m args below meth c H locs cells slots Q (F0 m (pc + 3) ls (.int x :: rest))) : W p l e R s m args below meth c H locs cells slots Q (F0 m pc ls (.ref (ad a) :: rest)) := r_geti S hK hP (T := TX7) inX7 rfl (by decide) (by decide) ha (sf_X7_5 ha) k_293 hdg hf w
end
section
variable {p : Program} {l : Launch} {e : Env} {R : Room} {s : State} {m : MethodId} {args : Array Value} {below : List Frame} {meth : Method} {c : Code} {H : Heap} {locs : List Loc} {cells slots : Nat} {Q : State → Prop} {cc : ByteArray} {pc : Nat} {ls : Array Slot} {rest : List Value} {nL : Nat} {D : va_G} {K : Ks} {ad : Nat → Nat} {A : Nat → Prop} {M : Mem} {β : Type} {z : β}
theorem gf_X8_49 (S : CallFix p m c cc nL s args Tw RX8) (hK : va_K D classes (gty K) s) (hP : va_P D classes (gws K G1 ad M) H) {a : Nat} {kk : Int32 → Option β} (ha : gcl G1 a = 7) (hdg : decode cc pc = .ok (.getfield 49, 3)) (hf : vv (M a 7) kk = some z) (w : ∀ x, kk x = some z → W p l e R s m args below meth c H locs cells slots Q (F0 m (pc + 3) ls (.int x :: rest))) : W p l e R s m args below meth c H locs cells slots Q (F0 m pc ls (.ref (ad a) :: rest)) := r_geti S hK hP (T := TX7) inX7 rfl (by decide) (by decide) ha (sf_X7_7 ha) k_297 hdg hf w
end
section
variable {p : Program} {l : Launch} {e : Env} {R : Room} {s : State} {m : MethodId} {args : Array Value} {below : List Frame} {meth : Method} {c : Code} {H : Heap} {locs : List Loc} {cells slots : Nat} {Q : State → Prop} {cc : ByteArray} {pc : Nat} {ls : Array Slot} {rest : List Value} {nL : Nat} {D : va_G} {K : Ks} {ad : Nat → Nat} {A : Nat → Prop} {M : Mem} {β : Type} {z : β}
theorem gf_X8_52 (S : CallFix p m c cc nL s args Tw RX8) (hK : va_K D classes (gty K) s) (hP : va_P D classes (gws K G1 ad M) H) {a : Nat} {kk : Nat → Option β} (ha : gcl G1 a = 7) (hdg : decode cc pc = .ok (.getfield 52, 3)) (hf : vv (grf G1 a 6) kk = some z) (w : ∀ b, gcl G1 b = 20 ∧ gsz G1 b = 96 → kk b = some z → W p l e R s m args below meth c H locs cells slots Q (F0 m (pc + 3) ls (.ref (ad b) :: rest))) : W p l e R s m args below meth c H locs cells slots Q (F0 m pc ls (.ref (ad a) :: rest)) := r_getr S hK hP (T := TX7) inX7 rfl (by decide) (by decide) ha (sf_X7_6 ha).1 k_295 hdg hf (fun b e => w b (by rw [e]; exact (sf_X7_6 ha).2))
end
def f_X8_add (o : Nat) (p1 : Nat) (M : Mem) : Option (Int32 × Mem) :=
  vv (M o 0) fun x1 =>
  if x1 < 14 then
    vv (grf G1 o 1) fun x2 =>
    vv (M o 0) fun x3 =>
    vv (M p1 3) fun x4 =>
    st M x2 x3 14 x4 fun M =>
    vv (grf G1 o 2) fun x5 =>
    vv (M o 0) fun x6 =>
    vv (M p1 4) fun x7 =>
    st M x5 x6 14 x7 fun M =>
    vv (grf G1 o 3) fun x8 =>
    vv (M o 0) fun x9 =>
    vv (M p1 5) fun x10 =>
    st M x8 x9 14 x10 fun M =>
    vv (grf G1 o 4) fun x11 =>
    vv (M o 0) fun x12 =>
    vv (M p1 7) fun x13 =>
    st M x11 x12 14 x13 fun M =>
    vv (grf G1 p1 6) fun x14 =>
    vv (grf G1 o 5) fun x15 =>
    vv (M o 0) fun x16 =>
    cy M x14 0 96 x15 (x16 * 96) 1344 96 fun M =>
    vv (M o 0) fun x17 =>
    mm (up M o 0 (x17 + 1)) fun M =>
    vv (M o 0) fun x18 =>
    some ((x18 - 1), M)
  else
    some ((-1000000003), M)
def rm_X8_add : Room := { frames := 1, cells := 0, slots := 0, locals := 60 }
set_option maxHeartbeats 4000000 in
set_option maxRecDepth 100000 in
theorem c_X8_add {l : Launch} {D : va_G} {K : Ks} {ad : Nat → Nat} {A : Nat → Prop} {tC tA tP : Nat} {kK kV : Nat → Nat} (hG : Gok G1 ad A) {o : Nat} {p1 : Nat} (h0 : gcl G1 o = 8) (h1 : gcl G1 p1 = 7) {M : Mem} {r : Int32} {M' : Mem} (hf : f_X8_add o p1 M = some (r, M')) : Ct l (E1 A tC tA tP kK kV) D K G1 ad A yX8_add (ws_of yX8_add cX8_add 2 (some .int)) rm_X8_add .int [.ref (ad o), .ref (ad p1)] M r M' := by
  have hst : Est A (E1 A tC tA tP kK kV) := est1
  refine Ct.ofW (by decide) (Nat.le_of_ble_eq_true rfl) ?_
  intro p e s m args below meth c Q H locs ls S hK hE hP hS hl hret
  have hx := S.1
  have hb := S.2.1
  have hown := S.2.2.2.1
  have ht := S.2.2.2.2
  have hl : lv_has ls 2 [(0, .ref (ad o)), (1, .ref (ad p1))] := hl
  unfold f_X8_add at hf
  refine lv_aload_n hx hb dX8_add_0 rfl (lv_at hl 0 rfl) ?_
  refine gf_X8_30 S hK hP h0 dX8_add_1 hf (fun x1 hf => ?_)
  refine lv_bipush (v := 14) hx hb dX8_add_4 (by decide) ?_
  refine r_icmp_lt (tgt := 12) S dX8_add_6 (by decide) hf (fun hf => ?_) (fun hf => ?_)
  · refine lv_aload_n hx hb dX8_add_12 rfl (lv_at hl 0 rfl) ?_
    refine gf_X8_9 S hK hP h0 dX8_add_13 hf (fun x2 hx2 hf => ?_)
    refine lv_aload_n hx hb dX8_add_16 rfl (lv_at hl 0 rfl) ?_
    refine gf_X8_30 S hK hP h0 dX8_add_17 hf (fun x3 hf => ?_)
    refine lv_aload_n hx hb dX8_add_20 rfl (lv_at hl 1 rfl) ?_
    refine gf_X8_41 S hK hP h1 dX8_add_21 hf (fun x4 hf => ?_)
    refine r_iast S hK hG hP hS hx2 dX8_add_24 hf (fun M H locs hP hS hf => ?_)
    refine lv_aload_n hx hb dX8_add_25 rfl (lv_at hl 0 rfl) ?_
    refine gf_X8_15 S hK hP h0 dX8_add_26 hf (fun x5 hx5 hf => ?_)
    refine lv_aload_n hx hb dX8_add_29 rfl (lv_at hl 0 rfl) ?_
    refine gf_X8_30 S hK hP h0 dX8_add_30 hf (fun x6 hf => ?_)
    refine lv_aload_n hx hb dX8_add_33 rfl (lv_at hl 1 rfl) ?_
    refine gf_X8_45 S hK hP h1 dX8_add_34 hf (fun x7 hf => ?_)
    refine r_iast S hK hG hP hS hx5 dX8_add_37 hf (fun M H locs hP hS hf => ?_)
    refine lv_aload_n hx hb dX8_add_38 rfl (lv_at hl 0 rfl) ?_
    refine gf_X8_18 S hK hP h0 dX8_add_39 hf (fun x8 hx8 hf => ?_)
    refine lv_aload_n hx hb dX8_add_42 rfl (lv_at hl 0 rfl) ?_
    refine gf_X8_30 S hK hP h0 dX8_add_43 hf (fun x9 hf => ?_)
    refine lv_aload_n hx hb dX8_add_46 rfl (lv_at hl 1 rfl) ?_
    refine gf_X8_47 S hK hP h1 dX8_add_47 hf (fun x10 hf => ?_)
    refine r_iast S hK hG hP hS hx8 dX8_add_50 hf (fun M H locs hP hS hf => ?_)
    refine lv_aload_n hx hb dX8_add_51 rfl (lv_at hl 0 rfl) ?_
    refine gf_X8_21 S hK hP h0 dX8_add_52 hf (fun x11 hx11 hf => ?_)
    refine lv_aload_n hx hb dX8_add_55 rfl (lv_at hl 0 rfl) ?_
    refine gf_X8_30 S hK hP h0 dX8_add_56 hf (fun x12 hf => ?_)
    refine lv_aload_n hx hb dX8_add_59 rfl (lv_at hl 1 rfl) ?_
    refine gf_X8_49 S hK hP h1 dX8_add_60 hf (fun x13 hf => ?_)
    refine r_iast S hK hG hP hS hx11 dX8_add_63 hf (fun M H locs hP hS hf => ?_)
    refine lv_aload_n hx hb dX8_add_64 rfl (lv_at hl 1 rfl) ?_
    refine gf_X8_52 S hK hP h1 dX8_add_65 hf (fun x14 hx14 hf => ?_)
    refine lv_iconst (v := 0) hx hb dX8_add_68 (by decide) ?_
    refine lv_aload_n hx hb dX8_add_69 rfl (lv_at hl 0 rfl) ?_
    refine gf_X8_24 S hK hP h0 dX8_add_70 hf (fun x15 hx15 hf => ?_)
    refine lv_aload_n hx hb dX8_add_73 rfl (lv_at hl 0 rfl) ?_
    refine gf_X8_30 S hK hP h0 dX8_add_74 hf (fun x16 hf => ?_)
    refine lv_bipush (v := 96) hx hb dX8_add_77 (by decide) ?_
    refine lv_imul hx hb dX8_add_79 ?_
    refine lv_bipush (v := 96) hx hb dX8_add_80 (by decide) ?_
    refine r_copy S hK hG hP hS hx14 hx15 k_727 k_729 k_728 k_80 hl.1 (Nat.le_of_ble_eq_true rfl) (Nat.le_of_ble_eq_true rfl) dX8_add_82 hf (fun M H locs hP hS hf => ?_)
    refine lv_aload_n hx hb dX8_add_85 rfl (lv_at hl 0 rfl) ?_
    refine lv_dup hx hb dX8_add_86 rfl ?_
    refine gf_X8_30 S hK hP h0 dX8_add_87 hf (fun x17 hf => ?_)
    refine lv_iconst (v := 1) hx hb dX8_add_90 (by decide) ?_
    refine lv_iadd hx hb dX8_add_91 ?_
    refine pf_X8_30 S hK hG hP hS h0 dX8_add_92 hf (fun M H locs hP hS hf => ?_)
    refine lv_aload_n hx hb dX8_add_95 rfl (lv_at hl 0 rfl) ?_
    refine gf_X8_30 S hK hP h0 dX8_add_96 hf (fun x18 hf => ?_)
    refine lv_iconst (v := 1) hx hb dX8_add_99 (by decide) ?_
    refine lv_isub hx hb dX8_add_100 ?_
    exact hret _ _ _ _ _ _ dX8_add_101 hP hS rfl hf
  · refine lv_ldc (v := (-1000000003)) hx hb hown (ht _ k_726) dX8_add_9 ?_
    exact hret _ _ _ _ _ _ dX8_add_11 hP hS rfl hf
theorem cw_X9_53 {R : Room} {s : State} {args : Array Value} (ht : ∀ w ∈ Tw, w.before args s = true) (hR : rm_X0_addTable.frames + 1 ≤ R.frames ∧ 8 + (2 + 11) + rm_X0_addTable.locals ≤ R.locals) : CallW R s args RX9 RX0 53 yX0_addTable cX0_addTable 2 (some .int) (ws_of yX0_addTable cX0_addTable 2 (some .int)) rm_X0_addTable 0 0 1 := cw_V 1 ht k_406 k_407 k_408 k_65 k_409 (by decide +kernel) rfl rfl hR
section
variable {p : Program} {l : Launch} {e : Env} {R : Room} {s : State} {m : MethodId} {args : Array Value} {below : List Frame} {meth : Method} {c : Code} {H : Heap} {locs : List Loc} {cells slots : Nat} {Q : State → Prop} {cc : ByteArray} {pc : Nat} {ls : Array Slot} {rest : List Value} {nL : Nat} {D : va_G} {K : Ks} {ad : Nat → Nat} {A : Nat → Prop} {M : Mem} {β : Type} {z : β}
theorem gf_X9_10 (S : CallFix p m c cc nL s args Tw RX9) (hK : va_K D classes (gty K) s) (hP : va_P D classes (gws K G1 ad M) H) {a : Nat} {kk : Nat → Option β} (ha : gcl G1 a = 9) (hdg : decode cc pc = .ok (.getfield 10, 3)) (hf : vv (grf G1 a 0) kk = some z) (w : ∀ b, gcl G1 b = 6 → kk b = some z → W p l e R s m args below meth c H locs cells slots Q (F0 m (pc + 3) ls (.ref (ad b) :: rest))) : W p l e R s m args below meth c H locs cells slots Q (F0 m pc ls (.ref (ad a) :: rest)) := r_getr S hK hP (T := TX9) inX9 rfl (by decide) (by decide) ha (sf_X9_0 ha).1 k_373 hdg hf (fun b e => w b (by rw [e]; exact (sf_X9_0 ha).2))
end
section
variable {p : Program} {l : Launch} {e : Env} {R : Room} {s : State} {m : MethodId} {args : Array Value} {below : List Frame} {meth : Method} {c : Code} {H : Heap} {locs : List Loc} {cells slots : Nat} {Q : State → Prop} {cc : ByteArray} {pc : Nat} {ls : Array Slot} {rest : List Value} {nL : Nat} {D : va_G} {K : Ks} {ad : Nat → Nat} {A : Nat → Prop} {M : Mem} {β : Type} {z : β}
theorem gf_X9_49 (S : CallFix p m c cc nL s args Tw RX9) (hK : va_K D classes (gty K) s) (hP : va_P D classes (gws K G1 ad M) H) {a : Nat} {kk : Nat → Option β} (ha : gcl G1 a = 6) (hdg : decode cc pc = .ok (.getfield 49, 3)) (hf : vv (grf G1 a 0) kk = some z) (w : ∀ b, gcl G1 b = 0 → kk b = some z → W p l e R s m args below meth c H locs cells slots Q (F0 m (pc + 3) ls (.ref (ad b) :: rest))) : W p l e R s m args below meth c H locs cells slots Q (F0 m pc ls (.ref (ad a) :: rest)) := r_getr S hK hP (T := TX6) inX6 rfl (by decide) (by decide) ha (sf_X6_0 ha).1 k_237 hdg hf (fun b e => w b (by rw [e]; exact (sf_X6_0 ha).2))
end
def f_X9_table (o : Nat) (p1 : Int32) (M : Mem) : Option (Int32 × Mem) :=
  bd (f_X9_within p1 0 59 M) fun x1 M =>
  if x1 = 0 then
    some ((-1000000001), M)
  else
    vv (grf G1 o 0) fun x2 =>
    vv (grf G1 x2 0) fun x3 =>
    bd (f_X0_addTable x3 p1 M) fun x4 M =>
    some (x4, M)
def rm_X9_table : Room := { frames := 1, cells := 0, slots := 0, locals := 22 }
set_option maxHeartbeats 4000000 in
set_option maxRecDepth 100000 in
theorem c_X9_table {l : Launch} {D : va_G} {K : Ks} {ad : Nat → Nat} {A : Nat → Prop} {tC tA tP : Nat} {kK kV : Nat → Nat} (hG : Gok G1 ad A) {o : Nat} {p1 : Int32} (h0 : gcl G1 o = 9) {M : Mem} {r : Int32} {M' : Mem} (hf : f_X9_table o p1 M = some (r, M')) : Ct l (E1 A tC tA tP kK kV) D K G1 ad A yX9_table (ws_of yX9_table cX9_table 2 (some .int)) rm_X9_table .int [.ref (ad o), .int p1] M r M' := by
  have hst : Est A (E1 A tC tA tP kK kV) := est1
  refine Ct.ofW (by decide) (Nat.le_of_ble_eq_true rfl) ?_
  intro p e s m args below meth c Q H locs ls S hK hE hP hS hl hret
  have hx := S.1
  have hb := S.2.1
  have hown := S.2.2.2.1
  have ht := S.2.2.2.2
  have hl : lv_has ls 2 [(0, .ref (ad o)), (1, .int p1)] := hl
  unfold f_X9_table at hf
  refine lv_iload_n hx hb dX9_table_0 rfl (lv_at hl 1 rfl) ?_
  refine lv_iconst (v := 0) hx hb dX9_table_1 (by decide) ?_
  refine lv_bipush (v := 59) hx hb dX9_table_2 (by decide) ?_
  refine r_callS (As := [.int p1, .int 0, .int 59]) (rest := []) S hK hE hst hP hS (cw_X9_44 ht ⟨Nat.le_of_ble_eq_true rfl, Nat.le_of_ble_eq_true rfl⟩) rfl hl.1 rfl (Nat.le_of_ble_eq_true rfl) dX9_table_4 z2 (fun _ _ h => c_X9_within hG  h) hf (fun x1 M H locs hP hS bx1 hf => ?_)
  refine r_if_ne (tgt := 13) S dX9_table_7 (by decide) hf (fun hf => ?_) (fun hf => ?_)
  · refine lv_aload_n hx hb dX9_table_13 rfl (lv_at hl 0 rfl) ?_
    refine gf_X9_10 S hK hP h0 dX9_table_14 hf (fun x2 hx2 hf => ?_)
    refine gf_X9_49 S hK hP hx2 dX9_table_17 hf (fun x3 hx3 hf => ?_)
    refine lv_iload_n hx hb dX9_table_20 rfl (lv_at hl 1 rfl) ?_
    refine r_callV (As := [.int p1]) (rest := []) S hK hE hst hP hS hx3 (by decide) rfl (cw_X9_53 ht ⟨Nat.le_of_ble_eq_true rfl, Nat.le_of_ble_eq_true rfl⟩) rfl hl.1 rfl (Nat.le_of_ble_eq_true rfl) dX9_table_21 z2 (fun _ _ h => c_X0_addTable hG  hx3 h) hf (fun x4 M H locs hP hS bx4 hf => ?_)
    exact hret _ _ _ _ _ _ dX9_table_24 hP hS rfl hf
  · refine lv_ldc (v := (-1000000001)) hx hb hown (ht _ k_405) dX9_table_10 ?_
    exact hret _ _ _ _ _ _ dX9_table_12 hP hS rfl hf
def f_X9_arePairs (p0 : Int32) (M : Mem) : Option (Int32 × Mem) :=
  bd (f_X9_within p0 1 999 M) fun x1 M =>
  some (x1, M)
def rm_X9_arePairs : Room := { frames := 1, cells := 0, slots := 0, locals := 22 }
set_option maxHeartbeats 4000000 in
set_option maxRecDepth 100000 in
theorem c_X9_arePairs {l : Launch} {D : va_G} {K : Ks} {ad : Nat → Nat} {A : Nat → Prop} {tC tA tP : Nat} {kK kV : Nat → Nat} (hG : Gok G1 ad A) {p0 : Int32}  {M : Mem} {r : Int32} {M' : Mem} (hf : f_X9_arePairs p0 M = some (r, M')) : Ct l (E1 A tC tA tP kK kV) D K G1 ad A yX9_arePairs (ws_of yX9_arePairs cX9_arePairs 1 (some .boolean)) rm_X9_arePairs .boolean [.int p0] M r M' := by
  have hst : Est A (E1 A tC tA tP kK kV) := est1
  refine Ct.ofW (by decide) (Nat.le_of_ble_eq_true rfl) ?_
  intro p e s m args below meth c Q H locs ls S hK hE hP hS hl hret
  have hx := S.1
  have hb := S.2.1
  have hown := S.2.2.2.1
  have ht := S.2.2.2.2
  have hl : lv_has ls 1 [(0, .int p0)] := hl
  unfold f_X9_arePairs at hf
  refine lv_iload_n hx hb dX9_arePairs_0 rfl (lv_at hl 0 rfl) ?_
  refine lv_iconst (v := 1) hx hb dX9_arePairs_1 (by decide) ?_
  refine lv_sipush (v := 999) hx hb dX9_arePairs_2 (by decide) ?_
  refine r_callS (As := [.int p0, .int 1, .int 999]) (rest := []) S hK hE hst hP hS (cw_X9_44 ht ⟨Nat.le_of_ble_eq_true rfl, Nat.le_of_ble_eq_true rfl⟩) rfl hl.1 rfl (Nat.le_of_ble_eq_true rfl) dX9_arePairs_5 z2 (fun _ _ h => c_X9_within hG  h) hf (fun x1 M H locs hP hS bx1 hf => ?_)
  exact hret _ _ _ _ _ _ dX9_arePairs_8 hP hS bx1 hf
theorem cw_X9_59 {R : Room} {s : State} {args : Array Value} (ht : ∀ w ∈ Tw, w.before args s = true) (hR : rm_X0_hasTable.frames + 1 ≤ R.frames ∧ 8 + (2 + 11) + rm_X0_hasTable.locals ≤ R.locals) : CallW R s args RX9 RX0 59 yX0_hasTable cX0_hasTable 2 (some .boolean) (ws_of yX0_hasTable cX0_hasTable 2 (some .boolean)) rm_X0_hasTable 0 0 1 := cw_V 1 ht k_416 k_417 k_418 k_65 k_419 (by decide +kernel) rfl rfl hR
theorem cw_X9_66 {R : Room} {s : State} {args : Array Value} (ht : ∀ w ∈ Tw, w.before args s = true) (hR : rm_X9_arePairs.frames + 1 ≤ R.frames ∧ 8 + (1 + 11) + rm_X9_arePairs.locals ≤ R.locals) : CallB R s args RX9 66 yX9_arePairs cX9_arePairs 1 (some .boolean) (ws_of yX9_arePairs cX9_arePairs 1 (some .boolean)) rm_X9_arePairs 0 0 1 ∧ (Cond.static yX9_arePairs).before args s = true := cw_S 1 ht k_423 k_424 k_63 k_425 (by decide +kernel) rfl rfl hR
theorem cw_X9_69 {R : Room} {s : State} {args : Array Value} (ht : ∀ w ∈ Tw, w.before args s = true) (hR : rm_X0_has.frames + 1 ≤ R.frames ∧ 8 + (2 + 11) + rm_X0_has.locals ≤ R.locals) : CallW R s args RX9 RX0 69 yX0_has cX0_has 2 (some .boolean) (ws_of yX0_has cX0_has 2 (some .boolean)) rm_X0_has 0 0 1 := cw_V 1 ht k_426 k_427 k_428 k_65 k_429 (by decide +kernel) rfl rfl hR
theorem cw_X9_80 {R : Room} {s : State} {args : Array Value} (ht : ∀ w ∈ Tw, w.before args s = true) (hR : rm_X0_add.frames + 1 ≤ R.frames ∧ 8 + (6 + 11) + rm_X0_add.locals ≤ R.locals) : CallW R s args RX9 RX0 80 yX0_add cX0_add 6 (some .int) (ws_of yX0_add cX0_add 6 (some .int)) rm_X0_add 0 0 5 := cw_V 5 ht k_431 k_432 k_433 k_65 k_434 (by decide +kernel) rfl rfl hR
section
variable {p : Program} {l : Launch} {e : Env} {R : Room} {s : State} {m : MethodId} {args : Array Value} {below : List Frame} {meth : Method} {c : Code} {H : Heap} {locs : List Loc} {cells slots : Nat} {Q : State → Prop} {cc : ByteArray} {pc : Nat} {ls : Array Slot} {rest : List Value} {nL : Nat} {D : va_G} {K : Ks} {ad : Nat → Nat} {A : Nat → Prop} {M : Mem} {β : Type} {z : β}
theorem gf_X9_72 (S : CallFix p m c cc nL s args Tw RX9) (hK : va_K D classes (gty K) s) (hP : va_P D classes (gws K G1 ad M) H) {a : Nat} {kk : Nat → Option β} (ha : gcl G1 a = 0) (hdg : decode cc pc = .ok (.getfield 72, 3)) (hf : vv (grf G1 a 3) kk = some z) (w : ∀ b, gcl G1 b = 20 ∧ gsz G1 b = 40 → kk b = some z → W p l e R s m args below meth c H locs cells slots Q (F0 m (pc + 3) ls (.ref (ad b) :: rest))) : W p l e R s m args below meth c H locs cells slots Q (F0 m pc ls (.ref (ad a) :: rest)) := r_getr S hK hP (T := TX0) inX0 rfl (by decide) (by decide) ha (sf_X0_3 ha).1 k_109 hdg hf (fun b e => w b (by rw [e]; exact (sf_X0_3 ha).2))
end
section
variable {p : Program} {l : Launch} {e : Env} {R : Room} {s : State} {m : MethodId} {args : Array Value} {below : List Frame} {meth : Method} {c : Code} {H : Heap} {locs : List Loc} {cells slots : Nat} {Q : State → Prop} {cc : ByteArray} {pc : Nat} {ls : Array Slot} {rest : List Value} {nL : Nat} {D : va_G} {K : Ks} {ad : Nat → Nat} {A : Nat → Prop} {M : Mem} {β : Type} {z : β}
theorem gf_X9_75 (S : CallFix p m c cc nL s args Tw RX9) (hK : va_K D classes (gty K) s) (hP : va_P D classes (gws K G1 ad M) H) {a : Nat} {kk : Int32 → Option β} (ha : gcl G1 a = 0) (hdg : decode cc pc = .ok (.getfield 75, 3)) (hf : vv (M a 2) kk = some z) (w : ∀ x, kk x = some z → W p l e R s m args below meth c H locs cells slots Q (F0 m (pc + 3) ls (.int x :: rest))) : W p l e R s m args below meth c H locs cells slots Q (F0 m pc ls (.ref (ad a) :: rest)) := r_geti S hK hP (T := TX0) inX0 rfl (by decide) (by decide) ha (sf_X0_2 ha) k_106 hdg hf w
end
def f_X9_figure (o : Nat) (p1 : Int32) (p2 : Int32) (p3 : Int32) (p4 : Int32) (p5 : Int32) (M : Mem) : Option (Int32 × Mem) :=
  vv (grf G1 o 0) fun x1 =>
  vv (grf G1 x1 0) fun x2 =>
  bd (f_X0_hasTable x2 p1 M) fun x3 M =>
  if x3 = 0 then
    some ((-1000000001), M)
  else
    bd (f_X9_isKind p2 M) fun x4 M =>
    if x4 = 0 then
      some ((-1000000001), M)
    else
      bd (f_X9_within p3 0 9999 M) fun x5 M =>
      if x5 = 0 then
        some ((-1000000001), M)
      else
        bd (f_X9_arePairs p4 M) fun x6 M =>
        if x6 = 0 then
          some ((-1000000001), M)
        else
          jn (fun (M : Mem) =>
            vv (M x2 2) fun x8 =>
            if x8 < 40 then
              bd (f_X0_add x2 p1 p2 p3 p4 p5 M) fun x9 M =>
              some (x9, M)
            else
              some ((-1000000003), M)
          ) fun k7 =>
          if p5 = (-1) then
            k7 M
          else
            bd (f_X0_has x2 p5 M) fun x10 M =>
            if x10 = 0 then
              some ((-1000000001), M)
            else
              vv (grf G1 x2 3) fun x11 =>
              ld M x11 p5 40 fun x12 =>
              if p1 < x12 then
                some ((-1000000001), M)
              else
                k7 M
def rm_X9_figure : Room := { frames := 2, cells := 0, slots := 0, locals := 42 }
set_option maxHeartbeats 4000000 in
set_option maxRecDepth 100000 in
theorem c_X9_figure {l : Launch} {D : va_G} {K : Ks} {ad : Nat → Nat} {A : Nat → Prop} {tC tA tP : Nat} {kK kV : Nat → Nat} (hG : Gok G1 ad A) {o : Nat} {p1 : Int32} {p2 : Int32} {p3 : Int32} {p4 : Int32} {p5 : Int32} (h0 : gcl G1 o = 9) {M : Mem} {r : Int32} {M' : Mem} (hf : f_X9_figure o p1 p2 p3 p4 p5 M = some (r, M')) : Ct l (E1 A tC tA tP kK kV) D K G1 ad A yX9_figure (ws_of yX9_figure cX9_figure 7 (some .int)) rm_X9_figure .int [.ref (ad o), .int p1, .int p2, .int p3, .int p4, .int p5] M r M' := by
  have hst : Est A (E1 A tC tA tP kK kV) := est1
  refine Ct.ofW (by decide) (Nat.le_of_ble_eq_true rfl) ?_
  intro p e s m args below meth c Q H locs ls S hK hE hP hS hl hret
  have hx := S.1
  have hb := S.2.1
  have hown := S.2.2.2.1
  have ht := S.2.2.2.2
  have hl : lv_has ls 7 [(0, .ref (ad o)), (1, .int p1), (2, .int p2), (3, .int p3), (4, .int p4), (5, .int p5)] := hl
  unfold f_X9_figure at hf
  refine lv_aload_n hx hb dX9_figure_0 rfl (lv_at hl 0 rfl) ?_
  refine gf_X9_10 S hK hP h0 dX9_figure_1 hf (fun x1 hx1 hf => ?_)
  refine gf_X9_49 S hK hP hx1 dX9_figure_4 hf (fun x2 hx2 hf => ?_)
  refine lv_astore (lv' := [(6, .ref (ad x2)), (0, .ref (ad o)), (1, .int p1), (2, .int p2), (3, .int p3), (4, .int p4), (5, .int p5)]) hx hb dX9_figure_7 hl (by decide) rfl (fun ls hl => ?_)
  refine lv_aload hx hb dX9_figure_9 (lv_at hl 0 rfl) ?_
  refine lv_iload_n hx hb dX9_figure_11 rfl (lv_at hl 2 rfl) ?_
  refine r_callV (As := [.int p1]) (rest := []) S hK hE hst hP hS hx2 (by decide) rfl (cw_X9_59 ht ⟨Nat.le_of_ble_eq_true rfl, Nat.le_of_ble_eq_true rfl⟩) rfl hl.1 rfl (Nat.le_of_ble_eq_true rfl) dX9_figure_12 z2 (fun _ _ h => c_X0_hasTable hG  hx2 h) hf (fun x3 M H locs hP hS bx3 hf => ?_)
  refine r_if_eq (tgt := 44) S dX9_figure_15 (by decide) hf (fun hf => ?_) (fun hf => ?_)
  · refine lv_ldc (v := (-1000000001)) hx hb hown (ht _ k_405) dX9_figure_44 ?_
    exact hret _ _ _ _ _ _ dX9_figure_46 hP hS rfl hf
  · refine lv_iload_n hx hb dX9_figure_18 rfl (lv_at hl 3 rfl) ?_
    refine r_callS (As := [.int p2]) (rest := []) S hK hE hst hP hS (cw_X9_63 ht ⟨Nat.le_of_ble_eq_true rfl, Nat.le_of_ble_eq_true rfl⟩) rfl hl.1 rfl (Nat.le_of_ble_eq_true rfl) dX9_figure_19 z2 (fun _ _ h => c_X9_isKind hG  h) hf (fun x4 M H locs hP hS bx4 hf => ?_)
    refine r_if_eq (tgt := 44) S dX9_figure_22 (by decide) hf (fun hf => ?_) (fun hf => ?_)
    · refine lv_ldc (v := (-1000000001)) hx hb hown (ht _ k_405) dX9_figure_44 ?_
      exact hret _ _ _ _ _ _ dX9_figure_46 hP hS rfl hf
    · refine lv_iload_n hx hb dX9_figure_25 rfl (lv_at hl 4 rfl) ?_
      refine lv_iconst (v := 0) hx hb dX9_figure_26 (by decide) ?_
      refine lv_sipush (v := 9999) hx hb dX9_figure_27 (by decide) ?_
      refine r_callS (As := [.int p3, .int 0, .int 9999]) (rest := []) S hK hE hst hP hS (cw_X9_44 ht ⟨Nat.le_of_ble_eq_true rfl, Nat.le_of_ble_eq_true rfl⟩) rfl hl.1 rfl (Nat.le_of_ble_eq_true rfl) dX9_figure_30 z2 (fun _ _ h => c_X9_within hG  h) hf (fun x5 M H locs hP hS bx5 hf => ?_)
      refine r_if_eq (tgt := 44) S dX9_figure_33 (by decide) hf (fun hf => ?_) (fun hf => ?_)
      · refine lv_ldc (v := (-1000000001)) hx hb hown (ht _ k_405) dX9_figure_44 ?_
        exact hret _ _ _ _ _ _ dX9_figure_46 hP hS rfl hf
      · refine lv_iload hx hb dX9_figure_36 (lv_at hl 5 rfl) ?_
        refine r_callS (As := [.int p4]) (rest := []) S hK hE hst hP hS (cw_X9_66 ht ⟨Nat.le_of_ble_eq_true rfl, Nat.le_of_ble_eq_true rfl⟩) rfl hl.1 rfl (Nat.le_of_ble_eq_true rfl) dX9_figure_38 z2 (fun _ _ h => c_X9_arePairs hG  h) hf (fun x6 M H locs hP hS bx6 hf => ?_)
        refine r_if_ne (tgt := 47) S dX9_figure_41 (by decide) hf (fun hf => ?_) (fun hf => ?_)
        · refine lv_iload hx hb dX9_figure_47 (lv_at hl 6 rfl) ?_
          refine lv_iconst (v := (-1)) hx hb dX9_figure_49 (by decide) ?_
          obtain ⟨k7, hk7, hf⟩ := jn_w hf
          have J7 : ∀ (M : Mem) (H : Heap) (locs : List Loc) (ls : Array Slot), lv_has ls 7 [(1, .int p1), (2, .int p2), (3, .int p3), (4, .int p4), (5, .int p5), (6, .ref (ad x2))] → va_P D classes (gws K G1 ad M) H → va_S A s.heap H locs → k7 M = some (r, M') → W p l e rm_X9_figure s m args below meth c H locs 0 0 Q (F0 m 78 ls []) := by
            intro M H locs ls hl hP hS hf
            rw [hk7] at hf
            refine lv_aload hx hb dX9_figure_78 (lv_at hl 5 rfl) ?_
            refine gf_X9_75 S hK hP hx2 dX9_figure_80 hf (fun x8 hf => ?_)
            refine lv_bipush (v := 40) hx hb dX9_figure_83 (by decide) ?_
            refine r_icmp_lt (tgt := 91) S dX9_figure_85 (by decide) hf (fun hf => ?_) (fun hf => ?_)
            · refine lv_aload hx hb dX9_figure_91 (lv_at hl 5 rfl) ?_
              refine lv_iload_n hx hb dX9_figure_93 rfl (lv_at hl 0 rfl) ?_
              refine lv_iload_n hx hb dX9_figure_94 rfl (lv_at hl 1 rfl) ?_
              refine lv_iload_n hx hb dX9_figure_95 rfl (lv_at hl 2 rfl) ?_
              refine lv_iload hx hb dX9_figure_96 (lv_at hl 3 rfl) ?_
              refine lv_iload hx hb dX9_figure_98 (lv_at hl 4 rfl) ?_
              refine r_callV (As := [.int p1, .int p2, .int p3, .int p4, .int p5]) (rest := []) S hK hE hst hP hS hx2 (by decide) rfl (cw_X9_80 ht ⟨Nat.le_of_ble_eq_true rfl, Nat.le_of_ble_eq_true rfl⟩) rfl hl.1 rfl (Nat.le_of_ble_eq_true rfl) dX9_figure_100 z2 (fun _ _ h => c_X0_add hG  hx2 h) hf (fun x9 M H locs hP hS bx9 hf => ?_)
              exact hret _ _ _ _ _ _ dX9_figure_103 hP hS rfl hf
            · refine lv_ldc (v := (-1000000003)) hx hb hown (ht _ k_430) dX9_figure_88 ?_
              exact hret _ _ _ _ _ _ dX9_figure_90 hP hS rfl hf
          refine r_icmp_eq (tgt := 78) S dX9_figure_50 (by decide) hf (fun hf => ?_) (fun hf => ?_)
          · exact J7 M H locs ls (lv_sub hl [2, 3, 4, 5, 6, 0] rfl) hP hS hf
          · refine lv_aload hx hb dX9_figure_53 (lv_at hl 0 rfl) ?_
            refine lv_iload hx hb dX9_figure_55 (lv_at hl 6 rfl) ?_
            refine r_callV (As := [.int p5]) (rest := []) S hK hE hst hP hS hx2 (by decide) rfl (cw_X9_69 ht ⟨Nat.le_of_ble_eq_true rfl, Nat.le_of_ble_eq_true rfl⟩) rfl hl.1 rfl (Nat.le_of_ble_eq_true rfl) dX9_figure_57 z2 (fun _ _ h => c_X0_has hG  hx2 h) hf (fun x10 M H locs hP hS bx10 hf => ?_)
            refine r_if_eq (tgt := 75) S dX9_figure_60 (by decide) hf (fun hf => ?_) (fun hf => ?_)
            · refine lv_ldc (v := (-1000000001)) hx hb hown (ht _ k_405) dX9_figure_75 ?_
              exact hret _ _ _ _ _ _ dX9_figure_77 hP hS rfl hf
            · refine lv_aload hx hb dX9_figure_63 (lv_at hl 0 rfl) ?_
              refine gf_X9_72 S hK hP hx2 dX9_figure_65 hf (fun x11 hx11 hf => ?_)
              refine lv_iload hx hb dX9_figure_68 (lv_at hl 6 rfl) ?_
              refine r_iald S hK hP hx11 dX9_figure_70 hf (fun x12 hf => ?_)
              refine lv_iload_n hx hb dX9_figure_71 rfl (lv_at hl 2 rfl) ?_
              refine r_icmp_le (tgt := 78) S dX9_figure_72 (by decide) hf (fun hf => ?_) (fun hf => ?_)
              · exact J7 M H locs ls (lv_sub hl [2, 3, 4, 5, 6, 0] rfl) hP hS hf
              · refine lv_ldc (v := (-1000000001)) hx hb hown (ht _ k_405) dX9_figure_75 ?_
                exact hret _ _ _ _ _ _ dX9_figure_77 hP hS rfl hf
        · refine lv_ldc (v := (-1000000001)) hx hb hown (ht _ k_405) dX9_figure_44 ?_
          exact hret _ _ _ _ _ _ dX9_figure_46 hP hS rfl hf
theorem cw_X9_101 {R : Room} {s : State} {args : Array Value} (ht : ∀ w ∈ Tw, w.before args s = true) (hR : rm_X9_price.frames + 1 ≤ R.frames ∧ 8 + (2 + 11) + rm_X9_price.locals ≤ R.locals) : CallB R s args RX9 101 yX9_price cX9_price 2 (some .int) (ws_of yX9_price cX9_price 2 (some .int)) rm_X9_price 0 0 2 ∧ (Cond.static yX9_price).before args s = true := cw_S 2 ht k_497 k_498 k_63 k_499 (by decide +kernel) rfl rfl hR
theorem cw_X9_105 {R : Room} {s : State} {args : Array Value} (ht : ∀ w ∈ Tw, w.before args s = true) (hR : rm_X6_spreadOf.frames + 1 ≤ R.frames ∧ 8 + (2 + 11) + rm_X6_spreadOf.locals ≤ R.locals) : CallW R s args RX9 RX6 105 yX6_spreadOf cX6_spreadOf 2 (some .int) (ws_of yX6_spreadOf cX6_spreadOf 2 (some .int)) rm_X6_spreadOf 0 0 1 := cw_V 1 ht k_502 k_449 k_450 k_64 k_451 (by decide +kernel) rfl rfl hR
theorem cw_X9_108 {R : Room} {s : State} {args : Array Value} (ht : ∀ w ∈ Tw, w.before args s = true) (hR : rm_X6_isWorked.frames + 1 ≤ R.frames ∧ 8 + (2 + 11) + rm_X6_isWorked.locals ≤ R.locals) : CallW R s args RX9 RX6 108 yX6_isWorked cX6_isWorked 2 (some .boolean) (ws_of yX6_isWorked cX6_isWorked 2 (some .boolean)) rm_X6_isWorked 0 0 1 := cw_V 1 ht k_503 k_481 k_482 k_64 k_483 (by decide +kernel) rfl rfl hR
theorem cw_X9_111 {R : Room} {s : State} {args : Array Value} (ht : ∀ w ∈ Tw, w.before args s = true) (hR : rm_X6_worked.frames + 1 ≤ R.frames ∧ 8 + (5 + 11) + rm_X6_worked.locals ≤ R.locals) : CallW R s args RX9 RX6 111 yX6_worked cX6_worked 5 (some .int) (ws_of yX6_worked cX6_worked 5 (some .int)) rm_X6_worked 0 0 1 := cw_V 1 ht k_504 k_485 k_486 k_64 k_487 (by decide +kernel) rfl rfl hR
theorem cw_X9_118 {R : Room} {s : State} {args : Array Value} (ht : ∀ w ∈ Tw, w.before args s = true) (hR : rm_X3_holder.frames + 1 ≤ R.frames ∧ 8 + (4 + 11) + rm_X3_holder.locals ≤ R.locals) : CallW R s args RX9 RX3 118 yX3_holder cX3_holder 4 (some .int) (ws_of yX3_holder cX3_holder 4 (some .int)) rm_X3_holder 0 0 1 := cw_V 1 ht k_505 k_506 k_507 k_67 k_508 (by decide +kernel) rfl rfl hR
theorem cw_X9_123 {R : Room} {s : State} {args : Array Value} (ht : ∀ w ∈ Tw, w.before args s = true) (hR : rm_X0_yearOf.frames + 1 ≤ R.frames ∧ 8 + (2 + 11) + rm_X0_yearOf.locals ≤ R.locals) : CallW R s args RX9 RX0 123 yX0_yearOf cX0_yearOf 2 (some .int) (ws_of yX0_yearOf cX0_yearOf 2 (some .int)) rm_X0_yearOf 0 0 1 := cw_V 1 ht k_510 k_453 k_454 k_65 k_455 (by decide +kernel) rfl rfl hR
theorem cw_X9_97 {R : Room} {s : State} {args : Array Value} (ht : ∀ w ∈ Tw, w.before args s = true) (hR : rm_X6_fits.frames + 1 ≤ R.frames ∧ 8 + (6 + 11) + rm_X6_fits.locals ≤ R.locals) : CallW R s args RX9 RX6 97 yX6_fits cX6_fits 6 (some .boolean) (ws_of yX6_fits cX6_fits 6 (some .boolean)) rm_X6_fits 0 0 2 := cw_V 2 ht k_440 k_441 k_442 k_64 k_443 (by decide +kernel) rfl rfl hR
section
variable {p : Program} {l : Launch} {e : Env} {R : Room} {s : State} {m : MethodId} {args : Array Value} {below : List Frame} {meth : Method} {c : Code} {H : Heap} {locs : List Loc} {cells slots : Nat} {Q : State → Prop} {cc : ByteArray} {pc : Nat} {ls : Array Slot} {rest : List Value} {nL : Nat} {D : va_G} {K : Ks} {ad : Nat → Nat} {A : Nat → Prop} {M : Mem} {β : Type} {z : β}
theorem gf_X9_114 (S : CallFix p m c cc nL s args Tw RX9) (hK : va_K D classes (gty K) s) (hP : va_P D classes (gws K G1 ad M) H) {a : Nat} {kk : Nat → Option β} (ha : gcl G1 a = 6) (hdg : decode cc pc = .ok (.getfield 114, 3)) (hf : vv (grf G1 a 2) kk = some z) (w : ∀ b, gcl G1 b = 3 → kk b = some z → W p l e R s m args below meth c H locs cells slots Q (F0 m (pc + 3) ls (.ref (ad b) :: rest))) : W p l e R s m args below meth c H locs cells slots Q (F0 m pc ls (.ref (ad a) :: rest)) := r_getr S hK hP (T := TX6) inX6 rfl (by decide) (by decide) ha (sf_X6_2 ha).1 k_241 hdg hf (fun b e => w b (by rw [e]; exact (sf_X6_2 ha).2))
end
section
variable {p : Program} {l : Launch} {e : Env} {R : Room} {s : State} {m : MethodId} {args : Array Value} {below : List Frame} {meth : Method} {c : Code} {H : Heap} {locs : List Loc} {cells slots : Nat} {Q : State → Prop} {cc : ByteArray} {pc : Nat} {ls : Array Slot} {rest : List Value} {nL : Nat} {D : va_G} {K : Ks} {ad : Nat → Nat} {A : Nat → Prop} {M : Mem} {β : Type} {z : β}
theorem gf_X9_84 (S : CallFix p m c cc nL s args Tw RX9) (hK : va_K D classes (gty K) s) (hP : va_P D classes (gws K G1 ad M) H) {a : Nat} {kk : Nat → Option β} (ha : gcl G1 a = 0) (hdg : decode cc pc = .ok (.getfield 84, 3)) (hf : vv (grf G1 a 4) kk = some z) (w : ∀ b, gcl G1 b = 20 ∧ gsz G1 b = 40 → kk b = some z → W p l e R s m args below meth c H locs cells slots Q (F0 m (pc + 3) ls (.ref (ad b) :: rest))) : W p l e R s m args below meth c H locs cells slots Q (F0 m pc ls (.ref (ad a) :: rest)) := r_getr S hK hP (T := TX0) inX0 rfl (by decide) (by decide) ha (sf_X0_4 ha).1 k_112 hdg hf (fun b e => w b (by rw [e]; exact (sf_X0_4 ha).2))
end
section
variable {p : Program} {l : Launch} {e : Env} {R : Room} {s : State} {m : MethodId} {args : Array Value} {below : List Frame} {meth : Method} {c : Code} {H : Heap} {locs : List Loc} {cells slots : Nat} {Q : State → Prop} {cc : ByteArray} {pc : Nat} {ls : Array Slot} {rest : List Value} {nL : Nat} {D : va_G} {K : Ks} {ad : Nat → Nat} {A : Nat → Prop} {M : Mem} {β : Type} {z : β}
theorem gf_X9_87 (S : CallFix p m c cc nL s args Tw RX9) (hK : va_K D classes (gty K) s) (hP : va_P D classes (gws K G1 ad M) H) {a : Nat} {kk : Nat → Option β} (ha : gcl G1 a = 0) (hdg : decode cc pc = .ok (.getfield 87, 3)) (hf : vv (grf G1 a 5) kk = some z) (w : ∀ b, gcl G1 b = 20 ∧ gsz G1 b = 40 → kk b = some z → W p l e R s m args below meth c H locs cells slots Q (F0 m (pc + 3) ls (.ref (ad b) :: rest))) : W p l e R s m args below meth c H locs cells slots Q (F0 m pc ls (.ref (ad a) :: rest)) := r_getr S hK hP (T := TX0) inX0 rfl (by decide) (by decide) ha (sf_X0_5 ha).1 k_115 hdg hf (fun b e => w b (by rw [e]; exact (sf_X0_5 ha).2))
end
section
variable {p : Program} {l : Launch} {e : Env} {R : Room} {s : State} {m : MethodId} {args : Array Value} {below : List Frame} {meth : Method} {c : Code} {H : Heap} {locs : List Loc} {cells slots : Nat} {Q : State → Prop} {cc : ByteArray} {pc : Nat} {ls : Array Slot} {rest : List Value} {nL : Nat} {D : va_G} {K : Ks} {ad : Nat → Nat} {A : Nat → Prop} {M : Mem} {β : Type} {z : β}
theorem gf_X9_90 (S : CallFix p m c cc nL s args Tw RX9) (hK : va_K D classes (gty K) s) (hP : va_P D classes (gws K G1 ad M) H) {a : Nat} {kk : Nat → Option β} (ha : gcl G1 a = 0) (hdg : decode cc pc = .ok (.getfield 90, 3)) (hf : vv (grf G1 a 6) kk = some z) (w : ∀ b, gcl G1 b = 20 ∧ gsz G1 b = 40 → kk b = some z → W p l e R s m args below meth c H locs cells slots Q (F0 m (pc + 3) ls (.ref (ad b) :: rest))) : W p l e R s m args below meth c H locs cells slots Q (F0 m pc ls (.ref (ad a) :: rest)) := r_getr S hK hP (T := TX0) inX0 rfl (by decide) (by decide) ha (sf_X0_6 ha).1 k_119 hdg hf (fun b e => w b (by rw [e]; exact (sf_X0_6 ha).2))
end
section
variable {p : Program} {l : Launch} {e : Env} {R : Room} {s : State} {m : MethodId} {args : Array Value} {below : List Frame} {meth : Method} {c : Code} {H : Heap} {locs : List Loc} {cells slots : Nat} {Q : State → Prop} {cc : ByteArray} {pc : Nat} {ls : Array Slot} {rest : List Value} {nL : Nat} {D : va_G} {K : Ks} {ad : Nat → Nat} {A : Nat → Prop} {M : Mem} {β : Type} {z : β}
theorem gf_X9_93 (S : CallFix p m c cc nL s args Tw RX9) (hK : va_K D classes (gty K) s) (hP : va_P D classes (gws K G1 ad M) H) {a : Nat} {kk : Nat → Option β} (ha : gcl G1 a = 0) (hdg : decode cc pc = .ok (.getfield 93, 3)) (hf : vv (grf G1 a 7) kk = some z) (w : ∀ b, gcl G1 b = 20 ∧ gsz G1 b = 40 → kk b = some z → W p l e R s m args below meth c H locs cells slots Q (F0 m (pc + 3) ls (.ref (ad b) :: rest))) : W p l e R s m args below meth c H locs cells slots Q (F0 m pc ls (.ref (ad a) :: rest)) := r_getr S hK hP (T := TX0) inX0 rfl (by decide) (by decide) ha (sf_X0_7 ha).1 k_121 hdg hf (fun b e => w b (by rw [e]; exact (sf_X0_7 ha).2))
end
def f_X9_told (o : Nat) (p1 : Int32) (p2 : Int32) (M : Mem) : Option (Int32 × Mem) :=
  vv (grf G1 o 0) fun x1 =>
  vv (grf G1 x1 0) fun x2 =>
  bd (f_X0_has x2 p1 M) fun x3 M =>
  if x3 = 0 then
    some ((-1000000001), M)
  else
    if p2 = 0 then
      vv (grf G1 x2 3) fun x4 =>
      ld M x4 p1 40 fun x5 =>
      some (x5, M)
    else
    if p2 = 1 then
      vv (grf G1 x2 4) fun x8 =>
      ld M x8 p1 40 fun x9 =>
      some (x9, M)
    else
    if p2 = 2 then
      vv (grf G1 x2 5) fun x12 =>
      ld M x12 p1 40 fun x13 =>
      some (x13, M)
    else
    if p2 = 3 then
      vv (grf G1 x2 6) fun x16 =>
      ld M x16 p1 40 fun x17 =>
      some (x17, M)
    else
    if p2 = 4 then
      vv (grf G1 x2 7) fun x20 =>
      ld M x20 p1 40 fun x21 =>
      if x21 < 0 then
        some ((-1000000005), M)
      else
        vv (grf G1 x2 7) fun x22 =>
        ld M x22 p1 40 fun x23 =>
        some (x23, M)
    else
    if p2 = 5 then
      vv (grf G1 o 0) fun x26 =>
      vv (grf G1 x2 4) fun x27 =>
      ld M x27 p1 40 fun x28 =>
      bd (f_X6_fits x26 p1 x28 M) fun x29 M =>
      if x29 = 0 then
        some (0, M)
      else
        some (1, M)
    else
    if p2 = 6 then
      vv (grf G1 x2 4) fun x32 =>
      ld M x32 p1 40 fun x33 =>
      vv (grf G1 x2 6) fun x34 =>
      ld M x34 p1 40 fun x35 =>
      bd (f_X9_price x33 x35 M) fun x36 M =>
      some (x36, M)
    else
    if p2 = 7 then
      vv (grf G1 o 0) fun x39 =>
      bd (f_X6_spreadOf x39 p1 M) fun x40 M =>
      some (x40, M)
    else
    if p2 = 8 then
      vv (grf G1 o 0) fun x43 =>
      bd (f_X6_isWorked x43 p1 M) fun x44 M =>
      if x44 = 0 then
        some ((-1000000005), M)
      else
        vv (grf G1 o 0) fun x45 =>
        bd (f_X6_worked x45 p1 M) fun x46 M =>
        some (x46, M)
    else
    if p2 = 9 then
      vv (grf G1 o 0) fun x49 =>
      vv (grf G1 x49 2) fun x50 =>
      bd (f_X3_holder x50 p1 M) fun x51 M =>
      some (x51, M)
    else
    if p2 = 10 then
      bd (f_X0_yearOf x2 p1 M) fun x54 M =>
      some (x54, M)
    else
    some ((-1000000001), M)
def rm_X9_told : Room := { frames := 5, cells := 0, slots := 0, locals := 122 }
set_option maxHeartbeats 4000000 in
set_option maxRecDepth 100000 in
theorem c_X9_told {l : Launch} {D : va_G} {K : Ks} {ad : Nat → Nat} {A : Nat → Prop} {tC tA tP : Nat} {kK kV : Nat → Nat} (hG : Gok G1 ad A) {o : Nat} {p1 : Int32} {p2 : Int32} (h0 : gcl G1 o = 9) {M : Mem} {r : Int32} {M' : Mem} (hf : f_X9_told o p1 p2 M = some (r, M')) : Ct l (E1 A tC tA tP kK kV) D K G1 ad A yX9_told (ws_of yX9_told cX9_told 4 (some .int)) rm_X9_told .int [.ref (ad o), .int p1, .int p2] M r M' := by
  have hst : Est A (E1 A tC tA tP kK kV) := est1
  refine Ct.ofW (by decide) (Nat.le_of_ble_eq_true rfl) ?_
  intro p e s m args below meth c Q H locs ls S hK hE hP hS hl hret
  have hx := S.1
  have hb := S.2.1
  have hown := S.2.2.2.1
  have ht := S.2.2.2.2
  have hl : lv_has ls 4 [(0, .ref (ad o)), (1, .int p1), (2, .int p2)] := hl
  unfold f_X9_told at hf
  refine lv_aload_n hx hb dX9_told_0 rfl (lv_at hl 0 rfl) ?_
  refine gf_X9_10 S hK hP h0 dX9_told_1 hf (fun x1 hx1 hf => ?_)
  refine gf_X9_49 S hK hP hx1 dX9_told_4 hf (fun x2 hx2 hf => ?_)
  refine lv_astore_n (lv' := [(3, .ref (ad x2)), (0, .ref (ad o)), (1, .int p1), (2, .int p2)]) hx hb dX9_told_7 rfl hl (by decide) rfl (fun ls hl => ?_)
  refine lv_aload_n hx hb dX9_told_8 rfl (lv_at hl 0 rfl) ?_
  refine lv_iload_n hx hb dX9_told_9 rfl (lv_at hl 2 rfl) ?_
  refine r_callV (As := [.int p1]) (rest := []) S hK hE hst hP hS hx2 (by decide) rfl (cw_X9_69 ht ⟨Nat.le_of_ble_eq_true rfl, Nat.le_of_ble_eq_true rfl⟩) rfl hl.1 rfl (Nat.le_of_ble_eq_true rfl) dX9_told_10 z2 (fun _ _ h => c_X0_has hG  hx2 h) hf (fun x3 M H locs hP hS bx3 hf => ?_)
  refine r_if_ne (tgt := 19) S dX9_told_13 (by decide) hf (fun hf => ?_) (fun hf => ?_)
  · refine lv_iload_n hx hb dX9_told_19 rfl (lv_at hl 3 rfl) ?_
    refine r_case hf (fun e6 hf => ?_) (fun n7 hf => ?_)
    · refine lv_tableIn (x := p2) (tgt := 80) hx hb dX9_told_20 (by rw [e6]; decide) (by rw [e6]; decide) (by rw [e6]; rfl) (by decide) ?_
      refine lv_aload_n hx hb dX9_told_80 rfl (lv_at hl 0 rfl) ?_
      refine gf_X9_72 S hK hP hx2 dX9_told_81 hf (fun x4 hx4 hf => ?_)
      refine lv_iload_n hx hb dX9_told_84 rfl (lv_at hl 2 rfl) ?_
      refine r_iald S hK hP hx4 dX9_told_85 hf (fun x5 hf => ?_)
      exact hret _ _ _ _ _ _ dX9_told_86 hP hS rfl hf
    refine r_case hf (fun e10 hf => ?_) (fun n11 hf => ?_)
    · refine lv_tableIn (x := p2) (tgt := 87) hx hb dX9_told_20 (by rw [e10]; decide) (by rw [e10]; decide) (by rw [e10]; rfl) (by decide) ?_
      refine lv_aload_n hx hb dX9_told_87 rfl (lv_at hl 0 rfl) ?_
      refine gf_X9_84 S hK hP hx2 dX9_told_88 hf (fun x8 hx8 hf => ?_)
      refine lv_iload_n hx hb dX9_told_91 rfl (lv_at hl 2 rfl) ?_
      refine r_iald S hK hP hx8 dX9_told_92 hf (fun x9 hf => ?_)
      exact hret _ _ _ _ _ _ dX9_told_93 hP hS rfl hf
    refine r_case hf (fun e14 hf => ?_) (fun n15 hf => ?_)
    · refine lv_tableIn (x := p2) (tgt := 94) hx hb dX9_told_20 (by rw [e14]; decide) (by rw [e14]; decide) (by rw [e14]; rfl) (by decide) ?_
      refine lv_aload_n hx hb dX9_told_94 rfl (lv_at hl 0 rfl) ?_
      refine gf_X9_87 S hK hP hx2 dX9_told_95 hf (fun x12 hx12 hf => ?_)
      refine lv_iload_n hx hb dX9_told_98 rfl (lv_at hl 2 rfl) ?_
      refine r_iald S hK hP hx12 dX9_told_99 hf (fun x13 hf => ?_)
      exact hret _ _ _ _ _ _ dX9_told_100 hP hS rfl hf
    refine r_case hf (fun e18 hf => ?_) (fun n19 hf => ?_)
    · refine lv_tableIn (x := p2) (tgt := 101) hx hb dX9_told_20 (by rw [e18]; decide) (by rw [e18]; decide) (by rw [e18]; rfl) (by decide) ?_
      refine lv_aload_n hx hb dX9_told_101 rfl (lv_at hl 0 rfl) ?_
      refine gf_X9_90 S hK hP hx2 dX9_told_102 hf (fun x16 hx16 hf => ?_)
      refine lv_iload_n hx hb dX9_told_105 rfl (lv_at hl 2 rfl) ?_
      refine r_iald S hK hP hx16 dX9_told_106 hf (fun x17 hf => ?_)
      exact hret _ _ _ _ _ _ dX9_told_107 hP hS rfl hf
    refine r_case hf (fun e24 hf => ?_) (fun n25 hf => ?_)
    · refine lv_tableIn (x := p2) (tgt := 108) hx hb dX9_told_20 (by rw [e24]; decide) (by rw [e24]; decide) (by rw [e24]; rfl) (by decide) ?_
      refine lv_aload_n hx hb dX9_told_108 rfl (lv_at hl 0 rfl) ?_
      refine gf_X9_93 S hK hP hx2 dX9_told_109 hf (fun x20 hx20 hf => ?_)
      refine lv_iload_n hx hb dX9_told_112 rfl (lv_at hl 2 rfl) ?_
      refine r_iald S hK hP hx20 dX9_told_113 hf (fun x21 hf => ?_)
      refine r_if_ge (tgt := 122) S dX9_told_114 (by decide) hf (fun hf => ?_) (fun hf => ?_)
      · refine lv_aload_n hx hb dX9_told_122 rfl (lv_at hl 0 rfl) ?_
        refine gf_X9_93 S hK hP hx2 dX9_told_123 hf (fun x22 hx22 hf => ?_)
        refine lv_iload_n hx hb dX9_told_126 rfl (lv_at hl 2 rfl) ?_
        refine r_iald S hK hP hx22 dX9_told_127 hf (fun x23 hf => ?_)
        exact hret _ _ _ _ _ _ dX9_told_128 hP hS rfl hf
      · refine lv_ldc (v := (-1000000005)) hx hb hown (ht _ k_439) dX9_told_117 ?_
        refine lv_goto (tgt := 128) hx hb dX9_told_119 (by decide) ?_
        exact hret _ _ _ _ _ _ dX9_told_128 hP hS rfl hf
    refine r_case hf (fun e30 hf => ?_) (fun n31 hf => ?_)
    · refine lv_tableIn (x := p2) (tgt := 129) hx hb dX9_told_20 (by rw [e30]; decide) (by rw [e30]; decide) (by rw [e30]; rfl) (by decide) ?_
      refine lv_aload_n hx hb dX9_told_129 rfl (lv_at hl 1 rfl) ?_
      refine gf_X9_10 S hK hP h0 dX9_told_130 hf (fun x26 hx26 hf => ?_)
      refine lv_iload_n hx hb dX9_told_133 rfl (lv_at hl 2 rfl) ?_
      refine lv_aload_n hx hb dX9_told_134 rfl (lv_at hl 0 rfl) ?_
      refine gf_X9_84 S hK hP hx2 dX9_told_135 hf (fun x27 hx27 hf => ?_)
      refine lv_iload_n hx hb dX9_told_138 rfl (lv_at hl 2 rfl) ?_
      refine r_iald S hK hP hx27 dX9_told_139 hf (fun x28 hf => ?_)
      refine r_callV (As := [.int p1, .int x28]) (rest := []) S hK hE hst hP hS hx26 (by decide) rfl (cw_X9_97 ht ⟨Nat.le_of_ble_eq_true rfl, Nat.le_of_ble_eq_true rfl⟩) rfl hl.1 rfl (Nat.le_of_ble_eq_true rfl) dX9_told_140 z2 (fun _ _ h => c_X6_fits hG  hx26 h) hf (fun x29 M H locs hP hS bx29 hf => ?_)
      refine r_if_eq (tgt := 150) S dX9_told_143 (by decide) hf (fun hf => ?_) (fun hf => ?_)
      · refine lv_iconst (v := 0) hx hb dX9_told_150 (by decide) ?_
        exact hret _ _ _ _ _ _ dX9_told_151 hP hS rfl hf
      · refine lv_iconst (v := 1) hx hb dX9_told_146 (by decide) ?_
        refine lv_goto (tgt := 151) hx hb dX9_told_147 (by decide) ?_
        exact hret _ _ _ _ _ _ dX9_told_151 hP hS rfl hf
    refine r_case hf (fun e37 hf => ?_) (fun n38 hf => ?_)
    · refine lv_tableIn (x := p2) (tgt := 152) hx hb dX9_told_20 (by rw [e37]; decide) (by rw [e37]; decide) (by rw [e37]; rfl) (by decide) ?_
      refine lv_aload_n hx hb dX9_told_152 rfl (lv_at hl 0 rfl) ?_
      refine gf_X9_84 S hK hP hx2 dX9_told_153 hf (fun x32 hx32 hf => ?_)
      refine lv_iload_n hx hb dX9_told_156 rfl (lv_at hl 2 rfl) ?_
      refine r_iald S hK hP hx32 dX9_told_157 hf (fun x33 hf => ?_)
      refine lv_aload_n hx hb dX9_told_158 rfl (lv_at hl 0 rfl) ?_
      refine gf_X9_90 S hK hP hx2 dX9_told_159 hf (fun x34 hx34 hf => ?_)
      refine lv_iload_n hx hb dX9_told_162 rfl (lv_at hl 2 rfl) ?_
      refine r_iald S hK hP hx34 dX9_told_163 hf (fun x35 hf => ?_)
      refine r_callS (As := [.int x33, .int x35]) (rest := []) S hK hE hst hP hS (cw_X9_101 ht ⟨Nat.le_of_ble_eq_true rfl, Nat.le_of_ble_eq_true rfl⟩) rfl hl.1 rfl (Nat.le_of_ble_eq_true rfl) dX9_told_164 z2 (fun _ _ h => c_X9_price hG  h) hf (fun x36 M H locs hP hS bx36 hf => ?_)
      exact hret _ _ _ _ _ _ dX9_told_167 hP hS rfl hf
    refine r_case hf (fun e41 hf => ?_) (fun n42 hf => ?_)
    · refine lv_tableIn (x := p2) (tgt := 168) hx hb dX9_told_20 (by rw [e41]; decide) (by rw [e41]; decide) (by rw [e41]; rfl) (by decide) ?_
      refine lv_aload_n hx hb dX9_told_168 rfl (lv_at hl 1 rfl) ?_
      refine gf_X9_10 S hK hP h0 dX9_told_169 hf (fun x39 hx39 hf => ?_)
      refine lv_iload_n hx hb dX9_told_172 rfl (lv_at hl 2 rfl) ?_
      refine r_callV (As := [.int p1]) (rest := []) S hK hE hst hP hS hx39 (by decide) rfl (cw_X9_105 ht ⟨Nat.le_of_ble_eq_true rfl, Nat.le_of_ble_eq_true rfl⟩) rfl hl.1 rfl (Nat.le_of_ble_eq_true rfl) dX9_told_173 z2 (fun _ _ h => c_X6_spreadOf hG  hx39 h) hf (fun x40 M H locs hP hS bx40 hf => ?_)
      exact hret _ _ _ _ _ _ dX9_told_176 hP hS rfl hf
    refine r_case hf (fun e47 hf => ?_) (fun n48 hf => ?_)
    · refine lv_tableIn (x := p2) (tgt := 177) hx hb dX9_told_20 (by rw [e47]; decide) (by rw [e47]; decide) (by rw [e47]; rfl) (by decide) ?_
      refine lv_aload_n hx hb dX9_told_177 rfl (lv_at hl 1 rfl) ?_
      refine gf_X9_10 S hK hP h0 dX9_told_178 hf (fun x43 hx43 hf => ?_)
      refine lv_iload_n hx hb dX9_told_181 rfl (lv_at hl 2 rfl) ?_
      refine r_callV (As := [.int p1]) (rest := []) S hK hE hst hP hS hx43 (by decide) rfl (cw_X9_108 ht ⟨Nat.le_of_ble_eq_true rfl, Nat.le_of_ble_eq_true rfl⟩) rfl hl.1 rfl (Nat.le_of_ble_eq_true rfl) dX9_told_182 z2 (fun _ _ h => c_X6_isWorked hG  hx43 h) hf (fun x44 M H locs hP hS bx44 hf => ?_)
      refine r_if_eq (tgt := 199) S dX9_told_185 (by decide) hf (fun hf => ?_) (fun hf => ?_)
      · refine lv_ldc (v := (-1000000005)) hx hb hown (ht _ k_439) dX9_told_199 ?_
        exact hret _ _ _ _ _ _ dX9_told_201 hP hS rfl hf
      · refine lv_aload_n hx hb dX9_told_188 rfl (lv_at hl 1 rfl) ?_
        refine gf_X9_10 S hK hP h0 dX9_told_189 hf (fun x45 hx45 hf => ?_)
        refine lv_iload_n hx hb dX9_told_192 rfl (lv_at hl 2 rfl) ?_
        refine r_callV (As := [.int p1]) (rest := []) S hK hE hst hP hS hx45 (by decide) rfl (cw_X9_111 ht ⟨Nat.le_of_ble_eq_true rfl, Nat.le_of_ble_eq_true rfl⟩) rfl hl.1 rfl (Nat.le_of_ble_eq_true rfl) dX9_told_193 z2 (fun _ _ h => c_X6_worked hG  hx45 h) hf (fun x46 M H locs hP hS bx46 hf => ?_)
        refine lv_goto (tgt := 201) hx hb dX9_told_196 (by decide) ?_
        exact hret _ _ _ _ _ _ dX9_told_201 hP hS rfl hf
    refine r_case hf (fun e52 hf => ?_) (fun n53 hf => ?_)
    · refine lv_tableIn (x := p2) (tgt := 202) hx hb dX9_told_20 (by rw [e52]; decide) (by rw [e52]; decide) (by rw [e52]; rfl) (by decide) ?_
      refine lv_aload_n hx hb dX9_told_202 rfl (lv_at hl 1 rfl) ?_
      refine gf_X9_10 S hK hP h0 dX9_told_203 hf (fun x49 hx49 hf => ?_)
      refine gf_X9_114 S hK hP hx49 dX9_told_206 hf (fun x50 hx50 hf => ?_)
      refine lv_iload_n hx hb dX9_told_209 rfl (lv_at hl 2 rfl) ?_
      refine r_callV (As := [.int p1]) (rest := []) S hK hE hst hP hS hx50 (by decide) rfl (cw_X9_118 ht ⟨Nat.le_of_ble_eq_true rfl, Nat.le_of_ble_eq_true rfl⟩) rfl hl.1 rfl (Nat.le_of_ble_eq_true rfl) dX9_told_210 z2 (fun _ _ h => c_X3_holder hG  hx50 h) hf (fun x51 M H locs hP hS bx51 hf => ?_)
      exact hret _ _ _ _ _ _ dX9_told_213 hP hS rfl hf
    refine r_case hf (fun e55 hf => ?_) (fun n56 hf => ?_)
    · refine lv_tableIn (x := p2) (tgt := 214) hx hb dX9_told_20 (by rw [e55]; decide) (by rw [e55]; decide) (by rw [e55]; rfl) (by decide) ?_
      refine lv_aload_n hx hb dX9_told_214 rfl (lv_at hl 0 rfl) ?_
      refine lv_iload_n hx hb dX9_told_215 rfl (lv_at hl 2 rfl) ?_
      refine r_callV (As := [.int p1]) (rest := []) S hK hE hst hP hS hx2 (by decide) rfl (cw_X9_123 ht ⟨Nat.le_of_ble_eq_true rfl, Nat.le_of_ble_eq_true rfl⟩) rfl hl.1 rfl (Nat.le_of_ble_eq_true rfl) dX9_told_216 z2 (fun _ _ h => c_X0_yearOf hG  hx2 h) hf (fun x54 M H locs hP hS bx54 hf => ?_)
      exact hret _ _ _ _ _ _ dX9_told_219 hP hS rfl hf
    refine lv_tableOut (x := p2) (tgt := 220) hx hb dX9_told_20 (by have q0 := lv_neT (a := 0) n7 (by decide); have q1 := lv_neT (a := 1) n11 (by decide); have q2 := lv_neT (a := 2) n15 (by decide); have q3 := lv_neT (a := 3) n19 (by decide); have q4 := lv_neT (a := 4) n25 (by decide); have q5 := lv_neT (a := 5) n31 (by decide); have q6 := lv_neT (a := 6) n38 (by decide); have q7 := lv_neT (a := 7) n42 (by decide); have q8 := lv_neT (a := 8) n48 (by decide); have q9 := lv_neT (a := 9) n53 (by decide); have q10 := lv_neT (a := 10) n56 (by decide); omega) (by decide) ?_
    refine lv_ldc (v := (-1000000001)) hx hb hown (ht _ k_405) dX9_told_220 ?_
    exact hret _ _ _ _ _ _ dX9_told_222 hP hS rfl hf
  · refine lv_ldc (v := (-1000000001)) hx hb hown (ht _ k_405) dX9_told_16 ?_
    exact hret _ _ _ _ _ _ dX9_told_18 hP hS rfl hf
def f_X9_as (o : Nat) (p1 : Int32) (p2 : Int32) (M : Mem) : Option (Int32 × Mem) :=
  vv (grf G1 o 0) fun x1 =>
  vv (grf G1 x1 0) fun x2 =>
  bd (f_X0_has x2 p1 M) fun x3 M =>
  if x3 = 0 then
    some ((-1000000001), M)
  else
    bd (f_X9_isKind p2 M) fun x4 M =>
    if x4 = 0 then
      some ((-1000000001), M)
    else
      vv (grf G1 o 0) fun x5 =>
      vv (grf G1 x5 0) fun x6 =>
      vv (grf G1 x6 4) fun x7 =>
      ld M x7 p1 40 fun x8 =>
      bd (f_X9_isOfKind x8 p2 M) fun x9 M =>
      if x9 = 0 then
        some ((-1000000012), M)
      else
        vv (grf G1 o 0) fun x10 =>
        vv (grf G1 x10 0) fun x11 =>
        vv (grf G1 x11 5) fun x12 =>
        ld M x12 p1 40 fun x13 =>
        some (x13, M)
def rm_X9_as : Room := { frames := 3, cells := 0, slots := 0, locals := 65 }
set_option maxHeartbeats 4000000 in
set_option maxRecDepth 100000 in
theorem c_X9_as {l : Launch} {D : va_G} {K : Ks} {ad : Nat → Nat} {A : Nat → Prop} {tC tA tP : Nat} {kK kV : Nat → Nat} (hG : Gok G1 ad A) {o : Nat} {p1 : Int32} {p2 : Int32} (h0 : gcl G1 o = 9) {M : Mem} {r : Int32} {M' : Mem} (hf : f_X9_as o p1 p2 M = some (r, M')) : Ct l (E1 A tC tA tP kK kV) D K G1 ad A yX9_as (ws_of yX9_as cX9_as 3 (some .int)) rm_X9_as .int [.ref (ad o), .int p1, .int p2] M r M' := by
  have hst : Est A (E1 A tC tA tP kK kV) := est1
  refine Ct.ofW (by decide) (Nat.le_of_ble_eq_true rfl) ?_
  intro p e s m args below meth c Q H locs ls S hK hE hP hS hl hret
  have hx := S.1
  have hb := S.2.1
  have hown := S.2.2.2.1
  have ht := S.2.2.2.2
  have hl : lv_has ls 3 [(0, .ref (ad o)), (1, .int p1), (2, .int p2)] := hl
  unfold f_X9_as at hf
  refine lv_aload_n hx hb dX9_as_0 rfl (lv_at hl 0 rfl) ?_
  refine gf_X9_10 S hK hP h0 dX9_as_1 hf (fun x1 hx1 hf => ?_)
  refine gf_X9_49 S hK hP hx1 dX9_as_4 hf (fun x2 hx2 hf => ?_)
  refine lv_iload_n hx hb dX9_as_7 rfl (lv_at hl 1 rfl) ?_
  refine r_callV (As := [.int p1]) (rest := []) S hK hE hst hP hS hx2 (by decide) rfl (cw_X9_69 ht ⟨Nat.le_of_ble_eq_true rfl, Nat.le_of_ble_eq_true rfl⟩) rfl hl.1 rfl (Nat.le_of_ble_eq_true rfl) dX9_as_8 z2 (fun _ _ h => c_X0_has hG  hx2 h) hf (fun x3 M H locs hP hS bx3 hf => ?_)
  refine r_if_eq (tgt := 21) S dX9_as_11 (by decide) hf (fun hf => ?_) (fun hf => ?_)
  · refine lv_ldc (v := (-1000000001)) hx hb hown (ht _ k_405) dX9_as_21 ?_
    exact hret _ _ _ _ _ _ dX9_as_23 hP hS rfl hf
  · refine lv_iload_n hx hb dX9_as_14 rfl (lv_at hl 2 rfl) ?_
    refine r_callS (As := [.int p2]) (rest := []) S hK hE hst hP hS (cw_X9_63 ht ⟨Nat.le_of_ble_eq_true rfl, Nat.le_of_ble_eq_true rfl⟩) rfl hl.1 rfl (Nat.le_of_ble_eq_true rfl) dX9_as_15 z2 (fun _ _ h => c_X9_isKind hG  h) hf (fun x4 M H locs hP hS bx4 hf => ?_)
    refine r_if_ne (tgt := 24) S dX9_as_18 (by decide) hf (fun hf => ?_) (fun hf => ?_)
    · refine lv_aload_n hx hb dX9_as_24 rfl (lv_at hl 0 rfl) ?_
      refine gf_X9_10 S hK hP h0 dX9_as_25 hf (fun x5 hx5 hf => ?_)
      refine gf_X9_49 S hK hP hx5 dX9_as_28 hf (fun x6 hx6 hf => ?_)
      refine gf_X9_84 S hK hP hx6 dX9_as_31 hf (fun x7 hx7 hf => ?_)
      refine lv_iload_n hx hb dX9_as_34 rfl (lv_at hl 1 rfl) ?_
      refine r_iald S hK hP hx7 dX9_as_35 hf (fun x8 hf => ?_)
      refine lv_iload_n hx hb dX9_as_36 rfl (lv_at hl 2 rfl) ?_
      refine r_callS (As := [.int x8, .int p2]) (rest := []) S hK hE hst hP hS (cw_X9_126 ht ⟨Nat.le_of_ble_eq_true rfl, Nat.le_of_ble_eq_true rfl⟩) rfl hl.1 rfl (Nat.le_of_ble_eq_true rfl) dX9_as_37 z2 (fun _ _ h => c_X9_isOfKind hG  h) hf (fun x9 M H locs hP hS bx9 hf => ?_)
      refine r_if_eq (tgt := 58) S dX9_as_40 (by decide) hf (fun hf => ?_) (fun hf => ?_)
      · refine lv_ldc (v := (-1000000012)) hx hb hown (ht _ k_520) dX9_as_58 ?_
        exact hret _ _ _ _ _ _ dX9_as_60 hP hS rfl hf
      · refine lv_aload_n hx hb dX9_as_43 rfl (lv_at hl 0 rfl) ?_
        refine gf_X9_10 S hK hP h0 dX9_as_44 hf (fun x10 hx10 hf => ?_)
        refine gf_X9_49 S hK hP hx10 dX9_as_47 hf (fun x11 hx11 hf => ?_)
        refine gf_X9_87 S hK hP hx11 dX9_as_50 hf (fun x12 hx12 hf => ?_)
        refine lv_iload_n hx hb dX9_as_53 rfl (lv_at hl 1 rfl) ?_
        refine r_iald S hK hP hx12 dX9_as_54 hf (fun x13 hf => ?_)
        refine lv_goto (tgt := 60) hx hb dX9_as_55 (by decide) ?_
        exact hret _ _ _ _ _ _ dX9_as_60 hP hS rfl hf
    · refine lv_ldc (v := (-1000000001)) hx hb hown (ht _ k_405) dX9_as_21 ?_
      exact hret _ _ _ _ _ _ dX9_as_23 hP hS rfl hf
def f_X9_turns (o : Nat) (p1 : Int32) (p2 : Int32) (M : Mem) : Option (Int32 × Mem) :=
  vv (grf G1 o 0) fun x1 =>
  vv (grf G1 x1 0) fun x2 =>
  bd (f_X0_has x2 p1 M) fun x3 M =>
  if x3 = 0 then
    some ((-1000000001), M)
  else
    bd (f_X9_isKind p2 M) fun x4 M =>
    if x4 = 0 then
      some ((-1000000001), M)
    else
      vv (grf G1 o 0) fun x5 =>
      vv (grf G1 x5 0) fun x6 =>
      vv (grf G1 x6 4) fun x7 =>
      ld M x7 p1 40 fun x8 =>
      vv (grf G1 o 0) fun x9 =>
      vv (grf G1 x9 0) fun x10 =>
      vv (grf G1 x10 4) fun x11 =>
      st M x11 p1 40 p2 fun M =>
      some (x8, M)
def rm_X9_turns : Room := { frames := 2, cells := 0, slots := 0, locals := 42 }
set_option maxHeartbeats 4000000 in
set_option maxRecDepth 100000 in
theorem c_X9_turns {l : Launch} {D : va_G} {K : Ks} {ad : Nat → Nat} {A : Nat → Prop} {tC tA tP : Nat} {kK kV : Nat → Nat} (hG : Gok G1 ad A) {o : Nat} {p1 : Int32} {p2 : Int32} (h0 : gcl G1 o = 9) {M : Mem} {r : Int32} {M' : Mem} (hf : f_X9_turns o p1 p2 M = some (r, M')) : Ct l (E1 A tC tA tP kK kV) D K G1 ad A yX9_turns (ws_of yX9_turns cX9_turns 4 (some .int)) rm_X9_turns .int [.ref (ad o), .int p1, .int p2] M r M' := by
  have hst : Est A (E1 A tC tA tP kK kV) := est1
  refine Ct.ofW (by decide) (Nat.le_of_ble_eq_true rfl) ?_
  intro p e s m args below meth c Q H locs ls S hK hE hP hS hl hret
  have hx := S.1
  have hb := S.2.1
  have hown := S.2.2.2.1
  have ht := S.2.2.2.2
  have hl : lv_has ls 4 [(0, .ref (ad o)), (1, .int p1), (2, .int p2)] := hl
  unfold f_X9_turns at hf
  refine lv_aload_n hx hb dX9_turns_0 rfl (lv_at hl 0 rfl) ?_
  refine gf_X9_10 S hK hP h0 dX9_turns_1 hf (fun x1 hx1 hf => ?_)
  refine gf_X9_49 S hK hP hx1 dX9_turns_4 hf (fun x2 hx2 hf => ?_)
  refine lv_iload_n hx hb dX9_turns_7 rfl (lv_at hl 1 rfl) ?_
  refine r_callV (As := [.int p1]) (rest := []) S hK hE hst hP hS hx2 (by decide) rfl (cw_X9_69 ht ⟨Nat.le_of_ble_eq_true rfl, Nat.le_of_ble_eq_true rfl⟩) rfl hl.1 rfl (Nat.le_of_ble_eq_true rfl) dX9_turns_8 z2 (fun _ _ h => c_X0_has hG  hx2 h) hf (fun x3 M H locs hP hS bx3 hf => ?_)
  refine r_if_eq (tgt := 21) S dX9_turns_11 (by decide) hf (fun hf => ?_) (fun hf => ?_)
  · refine lv_ldc (v := (-1000000001)) hx hb hown (ht _ k_405) dX9_turns_21 ?_
    exact hret _ _ _ _ _ _ dX9_turns_23 hP hS rfl hf
  · refine lv_iload_n hx hb dX9_turns_14 rfl (lv_at hl 2 rfl) ?_
    refine r_callS (As := [.int p2]) (rest := []) S hK hE hst hP hS (cw_X9_63 ht ⟨Nat.le_of_ble_eq_true rfl, Nat.le_of_ble_eq_true rfl⟩) rfl hl.1 rfl (Nat.le_of_ble_eq_true rfl) dX9_turns_15 z2 (fun _ _ h => c_X9_isKind hG  h) hf (fun x4 M H locs hP hS bx4 hf => ?_)
    refine r_if_ne (tgt := 24) S dX9_turns_18 (by decide) hf (fun hf => ?_) (fun hf => ?_)
    · refine lv_aload_n hx hb dX9_turns_24 rfl (lv_at hl 0 rfl) ?_
      refine gf_X9_10 S hK hP h0 dX9_turns_25 hf (fun x5 hx5 hf => ?_)
      refine gf_X9_49 S hK hP hx5 dX9_turns_28 hf (fun x6 hx6 hf => ?_)
      refine gf_X9_84 S hK hP hx6 dX9_turns_31 hf (fun x7 hx7 hf => ?_)
      refine lv_iload_n hx hb dX9_turns_34 rfl (lv_at hl 1 rfl) ?_
      refine r_iald S hK hP hx7 dX9_turns_35 hf (fun x8 hf => ?_)
      refine lv_istore_n (lv' := [(3, .int x8), (0, .ref (ad o)), (1, .int p1), (2, .int p2)]) hx hb dX9_turns_36 rfl hl (by decide) rfl (fun ls hl => ?_)
      refine lv_aload_n hx hb dX9_turns_37 rfl (lv_at hl 1 rfl) ?_
      refine gf_X9_10 S hK hP h0 dX9_turns_38 hf (fun x9 hx9 hf => ?_)
      refine gf_X9_49 S hK hP hx9 dX9_turns_41 hf (fun x10 hx10 hf => ?_)
      refine gf_X9_84 S hK hP hx10 dX9_turns_44 hf (fun x11 hx11 hf => ?_)
      refine lv_iload_n hx hb dX9_turns_47 rfl (lv_at hl 2 rfl) ?_
      refine lv_iload_n hx hb dX9_turns_48 rfl (lv_at hl 3 rfl) ?_
      refine r_iast S hK hG hP hS hx11 dX9_turns_49 hf (fun M H locs hP hS hf => ?_)
      refine lv_iload_n hx hb dX9_turns_50 rfl (lv_at hl 0 rfl) ?_
      exact hret _ _ _ _ _ _ dX9_turns_51 hP hS rfl hf
    · refine lv_ldc (v := (-1000000001)) hx hb hown (ht _ k_405) dX9_turns_21 ?_
      exact hret _ _ _ _ _ _ dX9_turns_23 hP hS rfl hf
section
variable {p : Program} {l : Launch} {e : Env} {R : Room} {s : State} {m : MethodId} {args : Array Value} {below : List Frame} {meth : Method} {c : Code} {H : Heap} {locs : List Loc} {cells slots : Nat} {Q : State → Prop} {cc : ByteArray} {pc : Nat} {ls : Array Slot} {rest : List Value} {nL : Nat} {D : va_G} {K : Ks} {ad : Nat → Nat} {A : Nat → Prop} {M : Mem} {β : Type} {z : β}
theorem gf_X9_130 (S : CallFix p m c cc nL s args Tw RX9) (hK : va_K D classes (gty K) s) (hP : va_P D classes (gws K G1 ad M) H) {a : Nat} {kk : Int32 → Option β} (ha : gcl G1 a = 6) (hdg : decode cc pc = .ok (.getfield 130, 3)) (hf : vv (M a 7) kk = some z) (w : ∀ x, kk x = some z → W p l e R s m args below meth c H locs cells slots Q (F0 m (pc + 3) ls (.int x :: rest))) : W p l e R s m args below meth c H locs cells slots Q (F0 m pc ls (.ref (ad a) :: rest)) := r_geti S hK hP (T := TX6) inX6 rfl (by decide) (by decide) ha (sf_X6_7 ha) k_251 hdg hf w
end
section
variable {p : Program} {l : Launch} {e : Env} {R : Room} {s : State} {m : MethodId} {args : Array Value} {below : List Frame} {meth : Method} {c : Code} {H : Heap} {locs : List Loc} {cells slots : Nat} {Q : State → Prop} {cc : ByteArray} {pc : Nat} {ls : Array Slot} {rest : List Value} {nL : Nat} {D : va_G} {K : Ks} {ad : Nat → Nat} {A : Nat → Prop} {M : Mem} {β : Type} {z : β}
theorem pf_X9_130 (S : CallFix p m c cc nL s args Tw RX9) (hK : va_K D classes (gty K) s) (hG : Gok G1 ad A) (hP : va_P D classes (gws K G1 ad M) H) (hS : va_S A s.heap H locs) {a : Nat} {v : Int32} {kk : Mem → Option β} (ha : gcl G1 a = 6) (hdg : decode cc pc = .ok (.putfield 130, 3)) (hf : mm (up M a 7 v) kk = some z) (w : ∀ M H locs, va_P D classes (gws K G1 ad M) H → va_S A s.heap H locs → kk M = some z → W p l e R s m args below meth c H locs cells slots Q (F0 m (pc + 3) ls rest)) : W p l e R s m args below meth c H locs cells slots Q (F0 m pc ls (.int v :: .ref (ad a) :: rest)) := r_putt S hK hG hP hS (k := 7) (T := TX6) inX6 rfl (by decide) tyX6 tyX6_ok nmX6 (by decide) rfl rfl rfl ha (sf_X6_7 ha) k_251 hdg hf w
end
def f_X9_base (o : Nat) (p1 : Int32) (M : Mem) : Option (Int32 × Mem) :=
  bd (f_X9_within p1 0 9999 M) fun x1 M =>
  if x1 = 0 then
    some ((-1000000001), M)
  else
    vv (grf G1 o 0) fun x2 =>
    vv (M x2 7) fun x3 =>
    vv (grf G1 o 0) fun x4 =>
    mm (up M x4 7 p1) fun M =>
    some (x3, M)
def rm_X9_base : Room := { frames := 1, cells := 0, slots := 0, locals := 22 }
set_option maxHeartbeats 4000000 in
set_option maxRecDepth 100000 in
theorem c_X9_base {l : Launch} {D : va_G} {K : Ks} {ad : Nat → Nat} {A : Nat → Prop} {tC tA tP : Nat} {kK kV : Nat → Nat} (hG : Gok G1 ad A) {o : Nat} {p1 : Int32} (h0 : gcl G1 o = 9) {M : Mem} {r : Int32} {M' : Mem} (hf : f_X9_base o p1 M = some (r, M')) : Ct l (E1 A tC tA tP kK kV) D K G1 ad A yX9_base (ws_of yX9_base cX9_base 3 (some .int)) rm_X9_base .int [.ref (ad o), .int p1] M r M' := by
  have hst : Est A (E1 A tC tA tP kK kV) := est1
  refine Ct.ofW (by decide) (Nat.le_of_ble_eq_true rfl) ?_
  intro p e s m args below meth c Q H locs ls S hK hE hP hS hl hret
  have hx := S.1
  have hb := S.2.1
  have hown := S.2.2.2.1
  have ht := S.2.2.2.2
  have hl : lv_has ls 3 [(0, .ref (ad o)), (1, .int p1)] := hl
  unfold f_X9_base at hf
  refine lv_iload_n hx hb dX9_base_0 rfl (lv_at hl 1 rfl) ?_
  refine lv_iconst (v := 0) hx hb dX9_base_1 (by decide) ?_
  refine lv_sipush (v := 9999) hx hb dX9_base_2 (by decide) ?_
  refine r_callS (As := [.int p1, .int 0, .int 9999]) (rest := []) S hK hE hst hP hS (cw_X9_44 ht ⟨Nat.le_of_ble_eq_true rfl, Nat.le_of_ble_eq_true rfl⟩) rfl hl.1 rfl (Nat.le_of_ble_eq_true rfl) dX9_base_5 z2 (fun _ _ h => c_X9_within hG  h) hf (fun x1 M H locs hP hS bx1 hf => ?_)
  refine r_if_ne (tgt := 14) S dX9_base_8 (by decide) hf (fun hf => ?_) (fun hf => ?_)
  · refine lv_aload_n hx hb dX9_base_14 rfl (lv_at hl 0 rfl) ?_
    refine gf_X9_10 S hK hP h0 dX9_base_15 hf (fun x2 hx2 hf => ?_)
    refine gf_X9_130 S hK hP hx2 dX9_base_18 hf (fun x3 hf => ?_)
    refine lv_istore_n (lv' := [(2, .int x3), (0, .ref (ad o)), (1, .int p1)]) hx hb dX9_base_21 rfl hl (by decide) rfl (fun ls hl => ?_)
    refine lv_aload_n hx hb dX9_base_22 rfl (lv_at hl 1 rfl) ?_
    refine gf_X9_10 S hK hP h0 dX9_base_23 hf (fun x4 hx4 hf => ?_)
    refine lv_iload_n hx hb dX9_base_26 rfl (lv_at hl 2 rfl) ?_
    refine pf_X9_130 S hK hG hP hS hx4 dX9_base_27 hf (fun M H locs hP hS hf => ?_)
    refine lv_iload_n hx hb dX9_base_30 rfl (lv_at hl 0 rfl) ?_
    exact hret _ _ _ _ _ _ dX9_base_31 hP hS rfl hf
  · refine lv_ldc (v := (-1000000001)) hx hb hown (ht _ k_405) dX9_base_11 ?_
    exact hret _ _ _ _ _ _ dX9_base_13 hP hS rfl hf
theorem cw_X9_134 {R : Room} {s : State} {args : Array Value} (ht : ∀ w ∈ Tw, w.before args s = true) (hR : rm_X7_add.frames + 1 ≤ R.frames ∧ 8 + (3 + 11) + rm_X7_add.locals ≤ R.locals) : CallW R s args RX9 RX7 134 yX7_add cX7_add 3 none (ws_of yX7_add cX7_add 3 none) rm_X7_add 0 0 1 := cw_V 1 ht k_533 k_534 k_535 k_70 k_536 (by decide +kernel) rfl rfl hR
section
variable {p : Program} {l : Launch} {e : Env} {R : Room} {s : State} {m : MethodId} {args : Array Value} {below : List Frame} {meth : Method} {c : Code} {H : Heap} {locs : List Loc} {cells slots : Nat} {Q : State → Prop} {cc : ByteArray} {pc : Nat} {ls : Array Slot} {rest : List Value} {nL : Nat} {D : va_G} {K : Ks} {ad : Nat → Nat} {A : Nat → Prop} {M : Mem} {β : Type} {z : β}
theorem gf_X9_133 (S : CallFix p m c cc nL s args Tw RX9) (hK : va_K D classes (gty K) s) (hP : va_P D classes (gws K G1 ad M) H) {a : Nat} {kk : Int32 → Option β} (ha : gcl G1 a = 7) (hdg : decode cc pc = .ok (.getfield 133, 3)) (hf : vv (M a 1) kk = some z) (w : ∀ x, kk x = some z → W p l e R s m args below meth c H locs cells slots Q (F0 m (pc + 3) ls (.int x :: rest))) : W p l e R s m args below meth c H locs cells slots Q (F0 m pc ls (.ref (ad a) :: rest)) := r_geti S hK hP (T := TX7) inX7 rfl (by decide) (by decide) ha (sf_X7_1 ha) k_285 hdg hf w
end
section
variable {p : Program} {l : Launch} {e : Env} {R : Room} {s : State} {m : MethodId} {args : Array Value} {below : List Frame} {meth : Method} {c : Code} {H : Heap} {locs : List Loc} {cells slots : Nat} {Q : State → Prop} {cc : ByteArray} {pc : Nat} {ls : Array Slot} {rest : List Value} {nL : Nat} {D : va_G} {K : Ks} {ad : Nat → Nat} {A : Nat → Prop} {M : Mem} {β : Type} {z : β}
theorem gf_X9_22 (S : CallFix p m c cc nL s args Tw RX9) (hK : va_K D classes (gty K) s) (hP : va_P D classes (gws K G1 ad M) H) {a : Nat} {kk : Nat → Option β} (ha : gcl G1 a = 9) (hdg : decode cc pc = .ok (.getfield 22, 3)) (hf : vv (grf G1 a 3) kk = some z) (w : ∀ b, gcl G1 b = 7 → kk b = some z → W p l e R s m args below meth c H locs cells slots Q (F0 m (pc + 3) ls (.ref (ad b) :: rest))) : W p l e R s m args below meth c H locs cells slots Q (F0 m pc ls (.ref (ad a) :: rest)) := r_getr S hK hP (T := TX9) inX9 rfl (by decide) (by decide) ha (sf_X9_3 ha).1 k_376 hdg hf (fun b e => w b (by rw [e]; exact (sf_X9_3 ha).2))
end
def f_X9_feed (o : Nat) (p1 : Int32) (p2 : Int32) (p3 : Int32) (M : Mem) : Option (Int32 × Mem) :=
  vv (grf G1 o 3) fun x1 =>
  vv (M x1 1) fun x2 =>
  if 96 < (x2 + 12) then
    some ((-1000000003), M)
  else
    vv (grf G1 o 3) fun x3 =>
    bd (f_X7_add x3 p1 M) fun _ M =>
    vv (grf G1 o 3) fun x5 =>
    bd (f_X7_add x5 p2 M) fun _ M =>
    vv (grf G1 o 3) fun x7 =>
    bd (f_X7_add x7 p3 M) fun _ M =>
    vv (grf G1 o 3) fun x9 =>
    vv (M x9 1) fun x10 =>
    some (x10, M)
def rm_X9_feed : Room := { frames := 1, cells := 0, slots := 0, locals := 22 }
set_option maxHeartbeats 4000000 in
set_option maxRecDepth 100000 in
theorem c_X9_feed {l : Launch} {D : va_G} {K : Ks} {ad : Nat → Nat} {A : Nat → Prop} {tC tA tP : Nat} {kK kV : Nat → Nat} (hG : Gok G1 ad A) {o : Nat} {p1 : Int32} {p2 : Int32} {p3 : Int32} (h0 : gcl G1 o = 9) {M : Mem} {r : Int32} {M' : Mem} (hf : f_X9_feed o p1 p2 p3 M = some (r, M')) : Ct l (E1 A tC tA tP kK kV) D K G1 ad A yX9_feed (ws_of yX9_feed cX9_feed 4 (some .int)) rm_X9_feed .int [.ref (ad o), .int p1, .int p2, .int p3] M r M' := by
  have hst : Est A (E1 A tC tA tP kK kV) := est1
  refine Ct.ofW (by decide) (Nat.le_of_ble_eq_true rfl) ?_
  intro p e s m args below meth c Q H locs ls S hK hE hP hS hl hret
  have hx := S.1
  have hb := S.2.1
  have hown := S.2.2.2.1
  have ht := S.2.2.2.2
  have hl : lv_has ls 4 [(0, .ref (ad o)), (1, .int p1), (2, .int p2), (3, .int p3)] := hl
  unfold f_X9_feed at hf
  refine lv_aload_n hx hb dX9_feed_0 rfl (lv_at hl 0 rfl) ?_
  refine gf_X9_22 S hK hP h0 dX9_feed_1 hf (fun x1 hx1 hf => ?_)
  refine gf_X9_133 S hK hP hx1 dX9_feed_4 hf (fun x2 hf => ?_)
  refine lv_bipush (v := 12) hx hb dX9_feed_7 (by decide) ?_
  refine lv_iadd hx hb dX9_feed_9 ?_
  refine lv_bipush (v := 96) hx hb dX9_feed_10 (by decide) ?_
  refine r_icmp_le (tgt := 18) S dX9_feed_12 (by decide) hf (fun hf => ?_) (fun hf => ?_)
  · refine lv_aload_n hx hb dX9_feed_18 rfl (lv_at hl 0 rfl) ?_
    refine gf_X9_22 S hK hP h0 dX9_feed_19 hf (fun x3 hx3 hf => ?_)
    refine lv_iload_n hx hb dX9_feed_22 rfl (lv_at hl 1 rfl) ?_
    refine r_callVv (As := [.int p1]) (rest := []) S hK hE hst hP hS hx3 (by decide) rfl (cw_X9_134 ht ⟨Nat.le_of_ble_eq_true rfl, Nat.le_of_ble_eq_true rfl⟩) rfl hl.1 rfl (Nat.le_of_ble_eq_true rfl) dX9_feed_23 z2 (fun _ _ h => c_X7_add hG  hx3 h) hf (fun x4 M H locs hP hS hf => ?_)
    refine lv_aload_n hx hb dX9_feed_26 rfl (lv_at hl 0 rfl) ?_
    refine gf_X9_22 S hK hP h0 dX9_feed_27 hf (fun x5 hx5 hf => ?_)
    refine lv_iload_n hx hb dX9_feed_30 rfl (lv_at hl 2 rfl) ?_
    refine r_callVv (As := [.int p2]) (rest := []) S hK hE hst hP hS hx5 (by decide) rfl (cw_X9_134 ht ⟨Nat.le_of_ble_eq_true rfl, Nat.le_of_ble_eq_true rfl⟩) rfl hl.1 rfl (Nat.le_of_ble_eq_true rfl) dX9_feed_31 z2 (fun _ _ h => c_X7_add hG  hx5 h) hf (fun x6 M H locs hP hS hf => ?_)
    refine lv_aload_n hx hb dX9_feed_34 rfl (lv_at hl 0 rfl) ?_
    refine gf_X9_22 S hK hP h0 dX9_feed_35 hf (fun x7 hx7 hf => ?_)
    refine lv_iload_n hx hb dX9_feed_38 rfl (lv_at hl 3 rfl) ?_
    refine r_callVv (As := [.int p3]) (rest := []) S hK hE hst hP hS hx7 (by decide) rfl (cw_X9_134 ht ⟨Nat.le_of_ble_eq_true rfl, Nat.le_of_ble_eq_true rfl⟩) rfl hl.1 rfl (Nat.le_of_ble_eq_true rfl) dX9_feed_39 z2 (fun _ _ h => c_X7_add hG  hx7 h) hf (fun x8 M H locs hP hS hf => ?_)
    refine lv_aload_n hx hb dX9_feed_42 rfl (lv_at hl 0 rfl) ?_
    refine gf_X9_22 S hK hP h0 dX9_feed_43 hf (fun x9 hx9 hf => ?_)
    refine gf_X9_133 S hK hP hx9 dX9_feed_46 hf (fun x10 hf => ?_)
    exact hret _ _ _ _ _ _ dX9_feed_49 hP hS rfl hf
  · refine lv_ldc (v := (-1000000003)) hx hb hown (ht _ k_430) dX9_feed_15 ?_
    exact hret _ _ _ _ _ _ dX9_feed_17 hP hS rfl hf
section
variable {p : Program} {l : Launch} {e : Env} {R : Room} {s : State} {m : MethodId} {args : Array Value} {below : List Frame} {meth : Method} {c : Code} {H : Heap} {locs : List Loc} {cells slots : Nat} {Q : State → Prop} {cc : ByteArray} {pc : Nat} {ls : Array Slot} {rest : List Value} {nL : Nat} {D : va_G} {K : Ks} {ad : Nat → Nat} {A : Nat → Prop} {M : Mem} {β : Type} {z : β}
theorem pf_X9_133 (S : CallFix p m c cc nL s args Tw RX9) (hK : va_K D classes (gty K) s) (hG : Gok G1 ad A) (hP : va_P D classes (gws K G1 ad M) H) (hS : va_S A s.heap H locs) {a : Nat} {v : Int32} {kk : Mem → Option β} (ha : gcl G1 a = 7) (hdg : decode cc pc = .ok (.putfield 133, 3)) (hf : mm (up M a 1 v) kk = some z) (w : ∀ M H locs, va_P D classes (gws K G1 ad M) H → va_S A s.heap H locs → kk M = some z → W p l e R s m args below meth c H locs cells slots Q (F0 m (pc + 3) ls rest)) : W p l e R s m args below meth c H locs cells slots Q (F0 m pc ls (.int v :: .ref (ad a) :: rest)) := r_putt S hK hG hP hS (k := 1) (T := TX7) inX7 rfl (by decide) tyX7 tyX7_ok nmX7 (by decide) rfl rfl rfl ha (sf_X7_1 ha) k_285 hdg hf w
end
def f_X9_trim (o : Nat) (p1 : Int32) (M : Mem) : Option (Int32 × Mem) :=
  vv (grf G1 o 3) fun x1 =>
  vv (M x1 1) fun x2 =>
  bd (f_X9_within p1 0 x2 M) fun x3 M =>
  if x3 = 0 then
    some ((-1000000001), M)
  else
    vv (grf G1 o 3) fun x4 =>
    mm (up M x4 1 p1) fun M =>
    some (p1, M)
def rm_X9_trim : Room := { frames := 1, cells := 0, slots := 0, locals := 22 }
set_option maxHeartbeats 4000000 in
set_option maxRecDepth 100000 in
theorem c_X9_trim {l : Launch} {D : va_G} {K : Ks} {ad : Nat → Nat} {A : Nat → Prop} {tC tA tP : Nat} {kK kV : Nat → Nat} (hG : Gok G1 ad A) {o : Nat} {p1 : Int32} (h0 : gcl G1 o = 9) {M : Mem} {r : Int32} {M' : Mem} (hf : f_X9_trim o p1 M = some (r, M')) : Ct l (E1 A tC tA tP kK kV) D K G1 ad A yX9_trim (ws_of yX9_trim cX9_trim 2 (some .int)) rm_X9_trim .int [.ref (ad o), .int p1] M r M' := by
  have hst : Est A (E1 A tC tA tP kK kV) := est1
  refine Ct.ofW (by decide) (Nat.le_of_ble_eq_true rfl) ?_
  intro p e s m args below meth c Q H locs ls S hK hE hP hS hl hret
  have hx := S.1
  have hb := S.2.1
  have hown := S.2.2.2.1
  have ht := S.2.2.2.2
  have hl : lv_has ls 2 [(0, .ref (ad o)), (1, .int p1)] := hl
  unfold f_X9_trim at hf
  refine lv_iload_n hx hb dX9_trim_0 rfl (lv_at hl 1 rfl) ?_
  refine lv_iconst (v := 0) hx hb dX9_trim_1 (by decide) ?_
  refine lv_aload_n hx hb dX9_trim_2 rfl (lv_at hl 0 rfl) ?_
  refine gf_X9_22 S hK hP h0 dX9_trim_3 hf (fun x1 hx1 hf => ?_)
  refine gf_X9_133 S hK hP hx1 dX9_trim_6 hf (fun x2 hf => ?_)
  refine r_callS (As := [.int p1, .int 0, .int x2]) (rest := []) S hK hE hst hP hS (cw_X9_44 ht ⟨Nat.le_of_ble_eq_true rfl, Nat.le_of_ble_eq_true rfl⟩) rfl hl.1 rfl (Nat.le_of_ble_eq_true rfl) dX9_trim_9 z2 (fun _ _ h => c_X9_within hG  h) hf (fun x3 M H locs hP hS bx3 hf => ?_)
  refine r_if_ne (tgt := 18) S dX9_trim_12 (by decide) hf (fun hf => ?_) (fun hf => ?_)
  · refine lv_aload_n hx hb dX9_trim_18 rfl (lv_at hl 0 rfl) ?_
    refine gf_X9_22 S hK hP h0 dX9_trim_19 hf (fun x4 hx4 hf => ?_)
    refine lv_iload_n hx hb dX9_trim_22 rfl (lv_at hl 1 rfl) ?_
    refine pf_X9_133 S hK hG hP hS hx4 dX9_trim_23 hf (fun M H locs hP hS hf => ?_)
    refine lv_iload_n hx hb dX9_trim_26 rfl (lv_at hl 1 rfl) ?_
    exact hret _ _ _ _ _ _ dX9_trim_27 hP hS rfl hf
  · refine lv_ldc (v := (-1000000001)) hx hb hown (ht _ k_405) dX9_trim_15 ?_
    exact hret _ _ _ _ _ _ dX9_trim_17 hP hS rfl hf
theorem cw_X9_137 {R : Room} {s : State} {args : Array Value} (ht : ∀ w ∈ Tw, w.before args s = true) (hR : rm_X7_readText.frames + 1 ≤ R.frames ∧ 8 + (1 + 11) + rm_X7_readText.locals ≤ R.locals) : CallW R s args RX9 RX7 137 yX7_readText cX7_readText 1 none (ws_of yX7_readText cX7_readText 1 none) rm_X7_readText 0 0 0 := cw_V 0 ht k_545 k_546 k_547 k_70 k_548 (by decide +kernel) rfl rfl hR
theorem cw_X9_147 {R : Room} {s : State} {args : Array Value} (ht : ∀ w ∈ Tw, w.before args s = true) (hR : rm_X8_add.frames + 1 ≤ R.frames ∧ 8 + (2 + 11) + rm_X8_add.locals ≤ R.locals) : CallW R s args RX9 RX8 147 yX8_add cX8_add 2 (some .int) (ws_of yX8_add cX8_add 2 (some .int)) rm_X8_add 0 0 1 := cw_V 1 ht k_722 k_723 k_724 k_66 k_725 (by decide +kernel) rfl rfl hR
section
variable {p : Program} {l : Launch} {e : Env} {R : Room} {s : State} {m : MethodId} {args : Array Value} {below : List Frame} {meth : Method} {c : Code} {H : Heap} {locs : List Loc} {cells slots : Nat} {Q : State → Prop} {cc : ByteArray} {pc : Nat} {ls : Array Slot} {rest : List Value} {nL : Nat} {D : va_G} {K : Ks} {ad : Nat → Nat} {A : Nat → Prop} {M : Mem} {β : Type} {z : β}
theorem gf_X9_140 (S : CallFix p m c cc nL s args Tw RX9) (hK : va_K D classes (gty K) s) (hP : va_P D classes (gws K G1 ad M) H) {a : Nat} {kk : Int32 → Option β} (ha : gcl G1 a = 7) (hdg : decode cc pc = .ok (.getfield 140, 3)) (hf : vv (M a 2) kk = some z) (w : ∀ x, kk x = some z → W p l e R s m args below meth c H locs cells slots Q (F0 m (pc + 3) ls (.int x :: rest))) : W p l e R s m args below meth c H locs cells slots Q (F0 m pc ls (.ref (ad a) :: rest)) := r_geti S hK hP (T := TX7) inX7 rfl (by decide) (by decide) ha (sf_X7_2 ha) k_287 hdg hf w
end
section
variable {p : Program} {l : Launch} {e : Env} {R : Room} {s : State} {m : MethodId} {args : Array Value} {below : List Frame} {meth : Method} {c : Code} {H : Heap} {locs : List Loc} {cells slots : Nat} {Q : State → Prop} {cc : ByteArray} {pc : Nat} {ls : Array Slot} {rest : List Value} {nL : Nat} {D : va_G} {K : Ks} {ad : Nat → Nat} {A : Nat → Prop} {M : Mem} {β : Type} {z : β}
theorem gf_X9_143 (S : CallFix p m c cc nL s args Tw RX9) (hK : va_K D classes (gty K) s) (hP : va_P D classes (gws K G1 ad M) H) {a : Nat} {kk : Nat → Option β} (ha : gcl G1 a = 6) (hdg : decode cc pc = .ok (.getfield 143, 3)) (hf : vv (grf G1 a 1) kk = some z) (w : ∀ b, gcl G1 b = 8 → kk b = some z → W p l e R s m args below meth c H locs cells slots Q (F0 m (pc + 3) ls (.ref (ad b) :: rest))) : W p l e R s m args below meth c H locs cells slots Q (F0 m pc ls (.ref (ad a) :: rest)) := r_getr S hK hP (T := TX6) inX6 rfl (by decide) (by decide) ha (sf_X6_1 ha).1 k_239 hdg hf (fun b e => w b (by rw [e]; exact (sf_X6_1 ha).2))
end
def f_X9_text (o : Nat) (M : Mem) : Option (Int32 × Mem) :=
  vv (grf G1 o 3) fun x1 =>
  bd (f_X7_readText x1 M) fun _ M =>
  vv (grf G1 o 3) fun x3 =>
  mm (up M x3 1 0) fun M =>
  vv (grf G1 o 3) fun x4 =>
  vv (M x4 2) fun x5 =>
  if x5 < 0 then
    vv (grf G1 o 0) fun x6 =>
    vv (grf G1 x6 1) fun x7 =>
    vv (grf G1 o 3) fun x8 =>
    bd (f_X8_add x7 x8 M) fun x9 M =>
    some (x9, M)
  else
    vv (grf G1 o 3) fun x10 =>
    vv (M x10 2) fun x11 =>
    some (((-100) - x11), M)
def rm_X9_text : Room := { frames := 114, cells := 0, slots := 0, locals := 8446 }
set_option maxHeartbeats 4000000 in
set_option maxRecDepth 100000 in
theorem c_X9_text {l : Launch} {D : va_G} {K : Ks} {ad : Nat → Nat} {A : Nat → Prop} {tC tA tP : Nat} {kK kV : Nat → Nat} (hG : Gok G1 ad A) {o : Nat} (h0 : gcl G1 o = 9) {M : Mem} {r : Int32} {M' : Mem} (hf : f_X9_text o M = some (r, M')) : Ct l (E1 A tC tA tP kK kV) D K G1 ad A yX9_text (ws_of yX9_text cX9_text 1 (some .int)) rm_X9_text .int [.ref (ad o)] M r M' := by
  have hst : Est A (E1 A tC tA tP kK kV) := est1
  refine Ct.ofW (by decide) (Nat.le_of_ble_eq_true rfl) ?_
  intro p e s m args below meth c Q H locs ls S hK hE hP hS hl hret
  have hx := S.1
  have hb := S.2.1
  have hown := S.2.2.2.1
  have ht := S.2.2.2.2
  have hl : lv_has ls 1 [(0, .ref (ad o))] := hl
  unfold f_X9_text at hf
  refine lv_aload_n hx hb dX9_text_0 rfl (lv_at hl 0 rfl) ?_
  refine gf_X9_22 S hK hP h0 dX9_text_1 hf (fun x1 hx1 hf => ?_)
  refine r_callVv (As := []) (rest := []) S hK hE hst hP hS hx1 (by decide) rfl (cw_X9_137 ht ⟨Nat.le_of_ble_eq_true rfl, Nat.le_of_ble_eq_true rfl⟩) rfl hl.1 rfl (Nat.le_of_ble_eq_true rfl) dX9_text_4 z2 (fun _ _ h => c_X7_readText hG  hx1 h) hf (fun x2 M H locs hP hS hf => ?_)
  refine lv_aload_n hx hb dX9_text_7 rfl (lv_at hl 0 rfl) ?_
  refine gf_X9_22 S hK hP h0 dX9_text_8 hf (fun x3 hx3 hf => ?_)
  refine lv_iconst (v := 0) hx hb dX9_text_11 (by decide) ?_
  refine pf_X9_133 S hK hG hP hS hx3 dX9_text_12 hf (fun M H locs hP hS hf => ?_)
  refine lv_aload_n hx hb dX9_text_15 rfl (lv_at hl 0 rfl) ?_
  refine gf_X9_22 S hK hP h0 dX9_text_16 hf (fun x4 hx4 hf => ?_)
  refine gf_X9_140 S hK hP hx4 dX9_text_19 hf (fun x5 hf => ?_)
  refine r_if_lt (tgt := 36) S dX9_text_22 (by decide) hf (fun hf => ?_) (fun hf => ?_)
  · refine lv_aload_n hx hb dX9_text_36 rfl (lv_at hl 0 rfl) ?_
    refine gf_X9_10 S hK hP h0 dX9_text_37 hf (fun x6 hx6 hf => ?_)
    refine gf_X9_143 S hK hP hx6 dX9_text_40 hf (fun x7 hx7 hf => ?_)
    refine lv_aload_n hx hb dX9_text_43 rfl (lv_at hl 0 rfl) ?_
    refine gf_X9_22 S hK hP h0 dX9_text_44 hf (fun x8 hx8 hf => ?_)
    refine r_callV (As := [.ref (ad x8)]) (rest := []) S hK hE hst hP hS hx7 (by decide) rfl (cw_X9_147 ht ⟨Nat.le_of_ble_eq_true rfl, Nat.le_of_ble_eq_true rfl⟩) rfl hl.1 rfl (Nat.le_of_ble_eq_true rfl) dX9_text_47 z2 (fun _ _ h => c_X8_add hG  hx7 hx8 h) hf (fun x9 M H locs hP hS bx9 hf => ?_)
    exact hret _ _ _ _ _ _ dX9_text_50 hP hS rfl hf
  · refine lv_bipush (v := (-100)) hx hb dX9_text_25 (by decide) ?_
    refine lv_aload_n hx hb dX9_text_27 rfl (lv_at hl 0 rfl) ?_
    refine gf_X9_22 S hK hP h0 dX9_text_28 hf (fun x10 hx10 hf => ?_)
    refine gf_X9_140 S hK hP hx10 dX9_text_31 hf (fun x11 hf => ?_)
    refine lv_isub hx hb dX9_text_34 ?_
    exact hret _ _ _ _ _ _ dX9_text_35 hP hS rfl hf
section
variable {p : Program} {l : Launch} {e : Env} {R : Room} {s : State} {m : MethodId} {args : Array Value} {below : List Frame} {meth : Method} {c : Code} {H : Heap} {locs : List Loc} {cells slots : Nat} {Q : State → Prop} {cc : ByteArray} {pc : Nat} {ls : Array Slot} {rest : List Value} {nL : Nat} {D : va_G} {K : Ks} {ad : Nat → Nat} {A : Nat → Prop} {M : Mem} {β : Type} {z : β}
theorem gf_X9_152 (S : CallFix p m c cc nL s args Tw RX9) (hK : va_K D classes (gty K) s) (hP : va_P D classes (gws K G1 ad M) H) {a : Nat} {kk : Int32 → Option β} (ha : gcl G1 a = 8) (hdg : decode cc pc = .ok (.getfield 152, 3)) (hf : vv (M a 0) kk = some z) (w : ∀ x, kk x = some z → W p l e R s m args below meth c H locs cells slots Q (F0 m (pc + 3) ls (.int x :: rest))) : W p l e R s m args below meth c H locs cells slots Q (F0 m pc ls (.ref (ad a) :: rest)) := r_geti S hK hP (T := TX8) inX8 rfl (by decide) (by decide) ha (sf_X8_0 ha) k_148 hdg hf w
end
section
variable {p : Program} {l : Launch} {e : Env} {R : Room} {s : State} {m : MethodId} {args : Array Value} {below : List Frame} {meth : Method} {c : Code} {H : Heap} {locs : List Loc} {cells slots : Nat} {Q : State → Prop} {cc : ByteArray} {pc : Nat} {ls : Array Slot} {rest : List Value} {nL : Nat} {D : va_G} {K : Ks} {ad : Nat → Nat} {A : Nat → Prop} {M : Mem} {β : Type} {z : β}
theorem gf_X9_153 (S : CallFix p m c cc nL s args Tw RX9) (hK : va_K D classes (gty K) s) (hP : va_P D classes (gws K G1 ad M) H) {a : Nat} {kk : Nat → Option β} (ha : gcl G1 a = 8) (hdg : decode cc pc = .ok (.getfield 153, 3)) (hf : vv (grf G1 a 1) kk = some z) (w : ∀ b, gcl G1 b = 20 ∧ gsz G1 b = 14 → kk b = some z → W p l e R s m args below meth c H locs cells slots Q (F0 m (pc + 3) ls (.ref (ad b) :: rest))) : W p l e R s m args below meth c H locs cells slots Q (F0 m pc ls (.ref (ad a) :: rest)) := r_getr S hK hP (T := TX8) inX8 rfl (by decide) (by decide) ha (sf_X8_1 ha).1 k_150 hdg hf (fun b e => w b (by rw [e]; exact (sf_X8_1 ha).2))
end
section
variable {p : Program} {l : Launch} {e : Env} {R : Room} {s : State} {m : MethodId} {args : Array Value} {below : List Frame} {meth : Method} {c : Code} {H : Heap} {locs : List Loc} {cells slots : Nat} {Q : State → Prop} {cc : ByteArray} {pc : Nat} {ls : Array Slot} {rest : List Value} {nL : Nat} {D : va_G} {K : Ks} {ad : Nat → Nat} {A : Nat → Prop} {M : Mem} {β : Type} {z : β}
theorem gf_X9_156 (S : CallFix p m c cc nL s args Tw RX9) (hK : va_K D classes (gty K) s) (hP : va_P D classes (gws K G1 ad M) H) {a : Nat} {kk : Nat → Option β} (ha : gcl G1 a = 8) (hdg : decode cc pc = .ok (.getfield 156, 3)) (hf : vv (grf G1 a 2) kk = some z) (w : ∀ b, gcl G1 b = 20 ∧ gsz G1 b = 14 → kk b = some z → W p l e R s m args below meth c H locs cells slots Q (F0 m (pc + 3) ls (.ref (ad b) :: rest))) : W p l e R s m args below meth c H locs cells slots Q (F0 m pc ls (.ref (ad a) :: rest)) := r_getr S hK hP (T := TX8) inX8 rfl (by decide) (by decide) ha (sf_X8_2 ha).1 k_152 hdg hf (fun b e => w b (by rw [e]; exact (sf_X8_2 ha).2))
end
section
variable {p : Program} {l : Launch} {e : Env} {R : Room} {s : State} {m : MethodId} {args : Array Value} {below : List Frame} {meth : Method} {c : Code} {H : Heap} {locs : List Loc} {cells slots : Nat} {Q : State → Prop} {cc : ByteArray} {pc : Nat} {ls : Array Slot} {rest : List Value} {nL : Nat} {D : va_G} {K : Ks} {ad : Nat → Nat} {A : Nat → Prop} {M : Mem} {β : Type} {z : β}
theorem gf_X9_157 (S : CallFix p m c cc nL s args Tw RX9) (hK : va_K D classes (gty K) s) (hP : va_P D classes (gws K G1 ad M) H) {a : Nat} {kk : Nat → Option β} (ha : gcl G1 a = 8) (hdg : decode cc pc = .ok (.getfield 157, 3)) (hf : vv (grf G1 a 3) kk = some z) (w : ∀ b, gcl G1 b = 20 ∧ gsz G1 b = 14 → kk b = some z → W p l e R s m args below meth c H locs cells slots Q (F0 m (pc + 3) ls (.ref (ad b) :: rest))) : W p l e R s m args below meth c H locs cells slots Q (F0 m pc ls (.ref (ad a) :: rest)) := r_getr S hK hP (T := TX8) inX8 rfl (by decide) (by decide) ha (sf_X8_3 ha).1 k_154 hdg hf (fun b e => w b (by rw [e]; exact (sf_X8_3 ha).2))
end
def f_X9_of (o : Nat) (p1 : Int32) (p2 : Int32) (M : Mem) : Option (Int32 × Mem) :=
  vv (grf G1 o 0) fun x1 =>
  vv (grf G1 x1 1) fun x2 =>
  vv (M x2 0) fun x3 =>
  bd (f_X9_within p1 0 (x3 - 1) M) fun x4 M =>
  if x4 = 0 then
    some ((-1000000001), M)
  else
    if p2 = 0 then
      vv (grf G1 x2 1) fun x5 =>
      ld M x5 p1 14 fun x6 =>
      some (x6, M)
    else
    if p2 = 1 then
      vv (grf G1 x2 2) fun x9 =>
      ld M x9 p1 14 fun x10 =>
      some (x10, M)
    else
    if p2 = 2 then
      vv (grf G1 x2 3) fun x13 =>
      ld M x13 p1 14 fun x14 =>
      some (x14, M)
    else
    some ((-1000000001), M)
def rm_X9_of : Room := { frames := 1, cells := 0, slots := 0, locals := 22 }
set_option maxHeartbeats 4000000 in
set_option maxRecDepth 100000 in
theorem c_X9_of {l : Launch} {D : va_G} {K : Ks} {ad : Nat → Nat} {A : Nat → Prop} {tC tA tP : Nat} {kK kV : Nat → Nat} (hG : Gok G1 ad A) {o : Nat} {p1 : Int32} {p2 : Int32} (h0 : gcl G1 o = 9) {M : Mem} {r : Int32} {M' : Mem} (hf : f_X9_of o p1 p2 M = some (r, M')) : Ct l (E1 A tC tA tP kK kV) D K G1 ad A yX9_of (ws_of yX9_of cX9_of 4 (some .int)) rm_X9_of .int [.ref (ad o), .int p1, .int p2] M r M' := by
  have hst : Est A (E1 A tC tA tP kK kV) := est1
  refine Ct.ofW (by decide) (Nat.le_of_ble_eq_true rfl) ?_
  intro p e s m args below meth c Q H locs ls S hK hE hP hS hl hret
  have hx := S.1
  have hb := S.2.1
  have hown := S.2.2.2.1
  have ht := S.2.2.2.2
  have hl : lv_has ls 4 [(0, .ref (ad o)), (1, .int p1), (2, .int p2)] := hl
  unfold f_X9_of at hf
  refine lv_aload_n hx hb dX9_of_0 rfl (lv_at hl 0 rfl) ?_
  refine gf_X9_10 S hK hP h0 dX9_of_1 hf (fun x1 hx1 hf => ?_)
  refine gf_X9_143 S hK hP hx1 dX9_of_4 hf (fun x2 hx2 hf => ?_)
  refine lv_astore_n (lv' := [(3, .ref (ad x2)), (0, .ref (ad o)), (1, .int p1), (2, .int p2)]) hx hb dX9_of_7 rfl hl (by decide) rfl (fun ls hl => ?_)
  refine lv_iload_n hx hb dX9_of_8 rfl (lv_at hl 2 rfl) ?_
  refine lv_iconst (v := 0) hx hb dX9_of_9 (by decide) ?_
  refine lv_aload_n hx hb dX9_of_10 rfl (lv_at hl 0 rfl) ?_
  refine gf_X9_152 S hK hP hx2 dX9_of_11 hf (fun x3 hf => ?_)
  refine lv_iconst (v := 1) hx hb dX9_of_14 (by decide) ?_
  refine lv_isub hx hb dX9_of_15 ?_
  refine r_callS (As := [.int p1, .int 0, .int (x3 - 1)]) (rest := []) S hK hE hst hP hS (cw_X9_44 ht ⟨Nat.le_of_ble_eq_true rfl, Nat.le_of_ble_eq_true rfl⟩) rfl hl.1 rfl (Nat.le_of_ble_eq_true rfl) dX9_of_16 z2 (fun _ _ h => c_X9_within hG  h) hf (fun x4 M H locs hP hS bx4 hf => ?_)
  refine r_if_ne (tgt := 25) S dX9_of_19 (by decide) hf (fun hf => ?_) (fun hf => ?_)
  · refine lv_iload_n hx hb dX9_of_25 rfl (lv_at hl 3 rfl) ?_
    refine r_case hf (fun e7 hf => ?_) (fun n8 hf => ?_)
    · refine lv_tableIn (x := p2) (tgt := 52) hx hb dX9_of_26 (by rw [e7]; decide) (by rw [e7]; decide) (by rw [e7]; rfl) (by decide) ?_
      refine lv_aload_n hx hb dX9_of_52 rfl (lv_at hl 0 rfl) ?_
      refine gf_X9_153 S hK hP hx2 dX9_of_53 hf (fun x5 hx5 hf => ?_)
      refine lv_iload_n hx hb dX9_of_56 rfl (lv_at hl 2 rfl) ?_
      refine r_iald S hK hP hx5 dX9_of_57 hf (fun x6 hf => ?_)
      exact hret _ _ _ _ _ _ dX9_of_58 hP hS rfl hf
    refine r_case hf (fun e11 hf => ?_) (fun n12 hf => ?_)
    · refine lv_tableIn (x := p2) (tgt := 59) hx hb dX9_of_26 (by rw [e11]; decide) (by rw [e11]; decide) (by rw [e11]; rfl) (by decide) ?_
      refine lv_aload_n hx hb dX9_of_59 rfl (lv_at hl 0 rfl) ?_
      refine gf_X9_156 S hK hP hx2 dX9_of_60 hf (fun x9 hx9 hf => ?_)
      refine lv_iload_n hx hb dX9_of_63 rfl (lv_at hl 2 rfl) ?_
      refine r_iald S hK hP hx9 dX9_of_64 hf (fun x10 hf => ?_)
      exact hret _ _ _ _ _ _ dX9_of_65 hP hS rfl hf
    refine r_case hf (fun e15 hf => ?_) (fun n16 hf => ?_)
    · refine lv_tableIn (x := p2) (tgt := 66) hx hb dX9_of_26 (by rw [e15]; decide) (by rw [e15]; decide) (by rw [e15]; rfl) (by decide) ?_
      refine lv_aload_n hx hb dX9_of_66 rfl (lv_at hl 0 rfl) ?_
      refine gf_X9_157 S hK hP hx2 dX9_of_67 hf (fun x13 hx13 hf => ?_)
      refine lv_iload_n hx hb dX9_of_70 rfl (lv_at hl 2 rfl) ?_
      refine r_iald S hK hP hx13 dX9_of_71 hf (fun x14 hf => ?_)
      exact hret _ _ _ _ _ _ dX9_of_72 hP hS rfl hf
    refine lv_tableOut (x := p2) (tgt := 73) hx hb dX9_of_26 (by have q0 := lv_neT (a := 0) n8 (by decide); have q1 := lv_neT (a := 1) n12 (by decide); have q2 := lv_neT (a := 2) n16 (by decide); omega) (by decide) ?_
    refine lv_ldc (v := (-1000000001)) hx hb hown (ht _ k_405) dX9_of_73 ?_
    exact hret _ _ _ _ _ _ dX9_of_75 hP hS rfl hf
  · refine lv_ldc (v := (-1000000001)) hx hb hown (ht _ k_405) dX9_of_22 ?_
    exact hret _ _ _ _ _ _ dX9_of_24 hP hS rfl hf
theorem cw_X9_160 {R : Room} {s : State} {args : Array Value} (ht : ∀ w ∈ Tw, w.before args s = true) (hR : rm_X8_latest.frames + 1 ≤ R.frames ∧ 8 + (4 + 11) + rm_X8_latest.locals ≤ R.locals) : CallW R s args RX9 RX8 160 yX8_latest cX8_latest 4 (some .int) (ws_of yX8_latest cX8_latest 4 (some .int)) rm_X8_latest 0 0 2 := cw_V 2 ht k_738 k_461 k_462 k_66 k_463 (by decide +kernel) rfl rfl hR
def f_X9_why (o : Nat) (p1 : Int32) (p2 : Int32) (M : Mem) : Option (Int32 × Mem) :=
  bd (f_X9_within p1 0 2 M) fun x1 M =>
  if x1 = 0 then
    some ((-1000000001), M)
  else
    jn (fun (M : Mem) =>
      vv (grf G1 o 0) fun x3 =>
      vv (grf G1 x3 1) fun x4 =>
      bd (f_X8_latest x4 p1 p2 M) fun x5 M =>
      some (x5, M)
    ) fun k2 =>
    if p1 = 0 then
      bd (f_X9_within p2 0 11 M) fun x6 M =>
      if x6 = 0 then
        some ((-1000000001), M)
      else
        k2 M
    else
      k2 M
def rm_X9_why : Room := { frames := 1, cells := 0, slots := 0, locals := 23 }
set_option maxHeartbeats 4000000 in
set_option maxRecDepth 100000 in
theorem c_X9_why {l : Launch} {D : va_G} {K : Ks} {ad : Nat → Nat} {A : Nat → Prop} {tC tA tP : Nat} {kK kV : Nat → Nat} (hG : Gok G1 ad A) {o : Nat} {p1 : Int32} {p2 : Int32} (h0 : gcl G1 o = 9) {M : Mem} {r : Int32} {M' : Mem} (hf : f_X9_why o p1 p2 M = some (r, M')) : Ct l (E1 A tC tA tP kK kV) D K G1 ad A yX9_why (ws_of yX9_why cX9_why 3 (some .int)) rm_X9_why .int [.ref (ad o), .int p1, .int p2] M r M' := by
  have hst : Est A (E1 A tC tA tP kK kV) := est1
  refine Ct.ofW (by decide) (Nat.le_of_ble_eq_true rfl) ?_
  intro p e s m args below meth c Q H locs ls S hK hE hP hS hl hret
  have hx := S.1
  have hb := S.2.1
  have hown := S.2.2.2.1
  have ht := S.2.2.2.2
  have hl : lv_has ls 3 [(0, .ref (ad o)), (1, .int p1), (2, .int p2)] := hl
  unfold f_X9_why at hf
  refine lv_iload_n hx hb dX9_why_0 rfl (lv_at hl 1 rfl) ?_
  refine lv_iconst (v := 0) hx hb dX9_why_1 (by decide) ?_
  refine lv_iconst (v := 2) hx hb dX9_why_2 (by decide) ?_
  refine r_callS (As := [.int p1, .int 0, .int 2]) (rest := []) S hK hE hst hP hS (cw_X9_44 ht ⟨Nat.le_of_ble_eq_true rfl, Nat.le_of_ble_eq_true rfl⟩) rfl hl.1 rfl (Nat.le_of_ble_eq_true rfl) dX9_why_3 z2 (fun _ _ h => c_X9_within hG  h) hf (fun x1 M H locs hP hS bx1 hf => ?_)
  refine r_if_ne (tgt := 12) S dX9_why_6 (by decide) hf (fun hf => ?_) (fun hf => ?_)
  · refine lv_iload_n hx hb dX9_why_12 rfl (lv_at hl 1 rfl) ?_
    obtain ⟨k2, hk2, hf⟩ := jn_w hf
    have J2 : ∀ (M : Mem) (H : Heap) (locs : List Loc) (ls : Array Slot), lv_has ls 3 [(0, .ref (ad o)), (1, .int p1), (2, .int p2)] → va_P D classes (gws K G1 ad M) H → va_S A s.heap H locs → k2 M = some (r, M') → W p l e rm_X9_why s m args below meth c H locs 0 0 Q (F0 m 29 ls []) := by
      intro M H locs ls hl hP hS hf
      rw [hk2] at hf
      refine lv_aload_n hx hb dX9_why_29 rfl (lv_at hl 0 rfl) ?_
      refine gf_X9_10 S hK hP h0 dX9_why_30 hf (fun x3 hx3 hf => ?_)
      refine gf_X9_143 S hK hP hx3 dX9_why_33 hf (fun x4 hx4 hf => ?_)
      refine lv_iload_n hx hb dX9_why_36 rfl (lv_at hl 1 rfl) ?_
      refine lv_iload_n hx hb dX9_why_37 rfl (lv_at hl 2 rfl) ?_
      refine r_callV (As := [.int p1, .int p2]) (rest := []) S hK hE hst hP hS hx4 (by decide) rfl (cw_X9_160 ht ⟨Nat.le_of_ble_eq_true rfl, Nat.le_of_ble_eq_true rfl⟩) rfl hl.1 rfl (Nat.le_of_ble_eq_true rfl) dX9_why_38 z2 (fun _ _ h => c_X8_latest hG  hx4 h) hf (fun x5 M H locs hP hS bx5 hf => ?_)
      exact hret _ _ _ _ _ _ dX9_why_41 hP hS rfl hf
    refine r_if_ne (tgt := 29) S dX9_why_13 (by decide) hf (fun hf => ?_) (fun hf => ?_)
    · exact J2 M H locs ls (lv_sub hl [0, 1, 2] rfl) hP hS hf
    · refine lv_iload_n hx hb dX9_why_16 rfl (lv_at hl 2 rfl) ?_
      refine lv_iconst (v := 0) hx hb dX9_why_17 (by decide) ?_
      refine lv_bipush (v := 11) hx hb dX9_why_18 (by decide) ?_
      refine r_callS (As := [.int p2, .int 0, .int 11]) (rest := []) S hK hE hst hP hS (cw_X9_44 ht ⟨Nat.le_of_ble_eq_true rfl, Nat.le_of_ble_eq_true rfl⟩) rfl hl.1 rfl (Nat.le_of_ble_eq_true rfl) dX9_why_20 z2 (fun _ _ h => c_X9_within hG  h) hf (fun x6 M H locs hP hS bx6 hf => ?_)
      refine r_if_ne (tgt := 29) S dX9_why_23 (by decide) hf (fun hf => ?_) (fun hf => ?_)
      · exact J2 M H locs ls (lv_sub hl [0, 1, 2] rfl) hP hS hf
      · refine lv_ldc (v := (-1000000001)) hx hb hown (ht _ k_405) dX9_why_26 ?_
        exact hret _ _ _ _ _ _ dX9_why_28 hP hS rfl hf
  · refine lv_ldc (v := (-1000000001)) hx hb hown (ht _ k_405) dX9_why_9 ?_
    exact hret _ _ _ _ _ _ dX9_why_11 hP hS rfl hf
theorem cw_X9_164 {R : Room} {s : State} {args : Array Value} (ht : ∀ w ∈ Tw, w.before args s = true) (hR : rm_X3_lastOf.frames + 1 ≤ R.frames ∧ 8 + (2 + 11) + rm_X3_lastOf.locals ≤ R.locals) : CallW R s args RX9 RX3 164 yX3_lastOf cX3_lastOf 2 (some .int) (ws_of yX3_lastOf cX3_lastOf 2 (some .int)) rm_X3_lastOf 0 0 1 := cw_V 1 ht k_744 k_745 k_746 k_67 k_747 (by decide +kernel) rfl rfl hR
theorem cw_X9_167 {R : Room} {s : State} {args : Array Value} (ht : ∀ w ∈ Tw, w.before args s = true) (hR : rm_X3_append.frames + 1 ≤ R.frames ∧ 8 + (3 + 11) + rm_X3_append.locals ≤ R.locals) : CallW R s args RX9 RX3 167 yX3_append cX3_append 3 (some .int) (ws_of yX3_append cX3_append 3 (some .int)) rm_X3_append 0 0 2 := cw_V 2 ht k_756 k_757 k_758 k_67 k_759 (by decide +kernel) rfl rfl hR
def f_X9_line (o : Nat) (p1 : Int32) (p2 : Int32) (M : Mem) : Option (Int32 × Mem) :=
  vv (grf G1 o 0) fun x1 =>
  vv (grf G1 x1 0) fun x2 =>
  vv (grf G1 o 0) fun x3 =>
  vv (grf G1 x3 2) fun x4 =>
  bd (f_X9_within p1 0 5 M) fun x5 M =>
  if x5 = 0 then
    some ((-1000000001), M)
  else
    bd (f_X0_has x2 p2 M) fun x6 M =>
    if x6 = 0 then
      some ((-1000000001), M)
    else
      bd (f_X3_holder x4 p2 M) fun x7 M =>
      if x7 = (-1000000005) then
        bd (f_X3_lastOf x4 p1 M) fun x8 M =>
        bd (f_X0_has x2 x8 M) fun x9 M =>
        jn (fun (M : Mem) =>
          bd (f_X3_append x4 p1 p2 M) fun x11 M =>
          some (x11, M)
        ) fun k10 =>
        if x9 = 0 then
          k10 M
        else
          vv (grf G1 x2 3) fun x12 =>
          ld M x12 p2 40 fun x13 =>
          vv (grf G1 x2 3) fun x14 =>
          ld M x14 x8 40 fun x15 =>
          if x15 < x13 then
            k10 M
          else
            some ((-1000000002), M)
      else
        some ((-1000000002), M)
def rm_X9_line : Room := { frames := 3, cells := 0, slots := 0, locals := 64 }
set_option maxHeartbeats 4000000 in
set_option maxRecDepth 100000 in
theorem c_X9_line {l : Launch} {D : va_G} {K : Ks} {ad : Nat → Nat} {A : Nat → Prop} {tC tA tP : Nat} {kK kV : Nat → Nat} (hG : Gok G1 ad A) {o : Nat} {p1 : Int32} {p2 : Int32} (h0 : gcl G1 o = 9) {M : Mem} {r : Int32} {M' : Mem} (hf : f_X9_line o p1 p2 M = some (r, M')) : Ct l (E1 A tC tA tP kK kV) D K G1 ad A yX9_line (ws_of yX9_line cX9_line 6 (some .int)) rm_X9_line .int [.ref (ad o), .int p1, .int p2] M r M' := by
  have hst : Est A (E1 A tC tA tP kK kV) := est1
  refine Ct.ofW (by decide) (Nat.le_of_ble_eq_true rfl) ?_
  intro p e s m args below meth c Q H locs ls S hK hE hP hS hl hret
  have hx := S.1
  have hb := S.2.1
  have hown := S.2.2.2.1
  have ht := S.2.2.2.2
  have hl : lv_has ls 6 [(0, .ref (ad o)), (1, .int p1), (2, .int p2)] := hl
  unfold f_X9_line at hf
  refine lv_aload_n hx hb dX9_line_0 rfl (lv_at hl 0 rfl) ?_
  refine gf_X9_10 S hK hP h0 dX9_line_1 hf (fun x1 hx1 hf => ?_)
  refine gf_X9_49 S hK hP hx1 dX9_line_4 hf (fun x2 hx2 hf => ?_)
  refine lv_astore_n (lv' := [(3, .ref (ad x2)), (0, .ref (ad o)), (1, .int p1), (2, .int p2)]) hx hb dX9_line_7 rfl hl (by decide) rfl (fun ls hl => ?_)
  refine lv_aload_n hx hb dX9_line_8 rfl (lv_at hl 1 rfl) ?_
  refine gf_X9_10 S hK hP h0 dX9_line_9 hf (fun x3 hx3 hf => ?_)
  refine gf_X9_114 S hK hP hx3 dX9_line_12 hf (fun x4 hx4 hf => ?_)
  refine lv_astore (lv' := [(4, .ref (ad x4)), (3, .ref (ad x2)), (0, .ref (ad o)), (1, .int p1), (2, .int p2)]) hx hb dX9_line_15 hl (by decide) rfl (fun ls hl => ?_)
  refine lv_iload_n hx hb dX9_line_17 rfl (lv_at hl 3 rfl) ?_
  refine lv_iconst (v := 0) hx hb dX9_line_18 (by decide) ?_
  refine lv_iconst (v := 5) hx hb dX9_line_19 (by decide) ?_
  refine r_callS (As := [.int p1, .int 0, .int 5]) (rest := []) S hK hE hst hP hS (cw_X9_44 ht ⟨Nat.le_of_ble_eq_true rfl, Nat.le_of_ble_eq_true rfl⟩) rfl hl.1 rfl (Nat.le_of_ble_eq_true rfl) dX9_line_20 z2 (fun _ _ h => c_X9_within hG  h) hf (fun x5 M H locs hP hS bx5 hf => ?_)
  refine r_if_eq (tgt := 34) S dX9_line_23 (by decide) hf (fun hf => ?_) (fun hf => ?_)
  · refine lv_ldc (v := (-1000000001)) hx hb hown (ht _ k_405) dX9_line_34 ?_
    exact hret _ _ _ _ _ _ dX9_line_36 hP hS rfl hf
  · refine lv_aload_n hx hb dX9_line_26 rfl (lv_at hl 1 rfl) ?_
    refine lv_iload_n hx hb dX9_line_27 rfl (lv_at hl 4 rfl) ?_
    refine r_callV (As := [.int p2]) (rest := []) S hK hE hst hP hS hx2 (by decide) rfl (cw_X9_69 ht ⟨Nat.le_of_ble_eq_true rfl, Nat.le_of_ble_eq_true rfl⟩) rfl hl.1 rfl (Nat.le_of_ble_eq_true rfl) dX9_line_28 z2 (fun _ _ h => c_X0_has hG  hx2 h) hf (fun x6 M H locs hP hS bx6 hf => ?_)
    refine r_if_ne (tgt := 37) S dX9_line_31 (by decide) hf (fun hf => ?_) (fun hf => ?_)
    · refine lv_aload hx hb dX9_line_37 (lv_at hl 0 rfl) ?_
      refine lv_iload_n hx hb dX9_line_39 rfl (lv_at hl 4 rfl) ?_
      refine r_callV (As := [.int p2]) (rest := []) S hK hE hst hP hS hx4 (by decide) rfl (cw_X9_118 ht ⟨Nat.le_of_ble_eq_true rfl, Nat.le_of_ble_eq_true rfl⟩) rfl hl.1 rfl (Nat.le_of_ble_eq_true rfl) dX9_line_40 z2 (fun _ _ h => c_X3_holder hG  hx4 h) hf (fun x7 M H locs hP hS bx7 hf => ?_)
      refine lv_ldc (v := (-1000000005)) hx hb hown (ht _ k_439) dX9_line_43 ?_
      refine r_icmp_eq (tgt := 51) S dX9_line_45 (by decide) hf (fun hf => ?_) (fun hf => ?_)
      · refine lv_aload hx hb dX9_line_51 (lv_at hl 0 rfl) ?_
        refine lv_iload_n hx hb dX9_line_53 rfl (lv_at hl 3 rfl) ?_
        refine r_callV (As := [.int p1]) (rest := []) S hK hE hst hP hS hx4 (by decide) rfl (cw_X9_164 ht ⟨Nat.le_of_ble_eq_true rfl, Nat.le_of_ble_eq_true rfl⟩) rfl hl.1 rfl (Nat.le_of_ble_eq_true rfl) dX9_line_54 z2 (fun _ _ h => c_X3_lastOf hG  hx4 h) hf (fun x8 M H locs hP hS bx8 hf => ?_)
        refine lv_istore (lv' := [(5, .int x8), (4, .ref (ad x4)), (3, .ref (ad x2)), (0, .ref (ad o)), (1, .int p1), (2, .int p2)]) hx hb dX9_line_57 hl (by decide) rfl (fun ls hl => ?_)
        refine lv_aload_n hx hb dX9_line_59 rfl (lv_at hl 2 rfl) ?_
        refine lv_iload hx hb dX9_line_60 (lv_at hl 0 rfl) ?_
        refine r_callV (As := [.int x8]) (rest := []) S hK hE hst hP hS hx2 (by decide) rfl (cw_X9_69 ht ⟨Nat.le_of_ble_eq_true rfl, Nat.le_of_ble_eq_true rfl⟩) rfl hl.1 rfl (Nat.le_of_ble_eq_true rfl) dX9_line_62 z2 (fun _ _ h => c_X0_has hG  hx2 h) hf (fun x9 M H locs hP hS bx9 hf => ?_)
        obtain ⟨k10, hk10, hf⟩ := jn_w hf
        have J10 : ∀ (M : Mem) (H : Heap) (locs : List Loc) (ls : Array Slot), lv_has ls 6 [(1, .int p1), (2, .int p2), (4, .ref (ad x4))] → va_P D classes (gws K G1 ad M) H → va_S A s.heap H locs → k10 M = some (r, M') → W p l e rm_X9_line s m args below meth c H locs 0 0 Q (F0 m 87 ls []) := by
          intro M H locs ls hl hP hS hf
          rw [hk10] at hf
          refine lv_aload hx hb dX9_line_87 (lv_at hl 2 rfl) ?_
          refine lv_iload_n hx hb dX9_line_89 rfl (lv_at hl 0 rfl) ?_
          refine lv_iload_n hx hb dX9_line_90 rfl (lv_at hl 1 rfl) ?_
          refine r_callV (As := [.int p1, .int p2]) (rest := []) S hK hE hst hP hS hx4 (by decide) rfl (cw_X9_167 ht ⟨Nat.le_of_ble_eq_true rfl, Nat.le_of_ble_eq_true rfl⟩) rfl hl.1 rfl (Nat.le_of_ble_eq_true rfl) dX9_line_91 z2 (fun _ _ h => c_X3_append hG  hx4 h) hf (fun x11 M H locs hP hS bx11 hf => ?_)
          exact hret _ _ _ _ _ _ dX9_line_94 hP hS rfl hf
        refine r_if_eq (tgt := 87) S dX9_line_65 (by decide) hf (fun hf => ?_) (fun hf => ?_)
        · exact J10 M H locs ls (lv_sub hl [4, 5, 1] rfl) hP hS hf
        · refine lv_aload_n hx hb dX9_line_68 rfl (lv_at hl 2 rfl) ?_
          refine gf_X9_72 S hK hP hx2 dX9_line_69 hf (fun x12 hx12 hf => ?_)
          refine lv_iload_n hx hb dX9_line_72 rfl (lv_at hl 5 rfl) ?_
          refine r_iald S hK hP hx12 dX9_line_73 hf (fun x13 hf => ?_)
          refine lv_aload_n hx hb dX9_line_74 rfl (lv_at hl 2 rfl) ?_
          refine gf_X9_72 S hK hP hx2 dX9_line_75 hf (fun x14 hx14 hf => ?_)
          refine lv_iload hx hb dX9_line_78 (lv_at hl 0 rfl) ?_
          refine r_iald S hK hP hx14 dX9_line_80 hf (fun x15 hf => ?_)
          refine r_icmp_gt (tgt := 87) S dX9_line_81 (by decide) hf (fun hf => ?_) (fun hf => ?_)
          · exact J10 M H locs ls (lv_sub hl [4, 5, 1] rfl) hP hS hf
          · refine lv_ldc (v := (-1000000002)) hx hb hown (ht _ k_743) dX9_line_84 ?_
            exact hret _ _ _ _ _ _ dX9_line_86 hP hS rfl hf
      · refine lv_ldc (v := (-1000000002)) hx hb hown (ht _ k_743) dX9_line_48 ?_
        exact hret _ _ _ _ _ _ dX9_line_50 hP hS rfl hf
    · refine lv_ldc (v := (-1000000001)) hx hb hown (ht _ k_405) dX9_line_34 ?_
      exact hret _ _ _ _ _ _ dX9_line_36 hP hS rfl hf
def f_X9_arePlaces (p0 : Int32) (M : Mem) : Option (Int32 × Mem) :=
  bd (f_X9_within p0 1 4 M) fun x1 M =>
  some (x1, M)
def rm_X9_arePlaces : Room := { frames := 1, cells := 0, slots := 0, locals := 22 }
set_option maxHeartbeats 4000000 in
set_option maxRecDepth 100000 in
theorem c_X9_arePlaces {l : Launch} {D : va_G} {K : Ks} {ad : Nat → Nat} {A : Nat → Prop} {tC tA tP : Nat} {kK kV : Nat → Nat} (hG : Gok G1 ad A) {p0 : Int32}  {M : Mem} {r : Int32} {M' : Mem} (hf : f_X9_arePlaces p0 M = some (r, M')) : Ct l (E1 A tC tA tP kK kV) D K G1 ad A yX9_arePlaces (ws_of yX9_arePlaces cX9_arePlaces 1 (some .boolean)) rm_X9_arePlaces .boolean [.int p0] M r M' := by
  have hst : Est A (E1 A tC tA tP kK kV) := est1
  refine Ct.ofW (by decide) (Nat.le_of_ble_eq_true rfl) ?_
  intro p e s m args below meth c Q H locs ls S hK hE hP hS hl hret
  have hx := S.1
  have hb := S.2.1
  have hown := S.2.2.2.1
  have ht := S.2.2.2.2
  have hl : lv_has ls 1 [(0, .int p0)] := hl
  unfold f_X9_arePlaces at hf
  refine lv_iload_n hx hb dX9_arePlaces_0 rfl (lv_at hl 0 rfl) ?_
  refine lv_iconst (v := 1) hx hb dX9_arePlaces_1 (by decide) ?_
  refine lv_iconst (v := 4) hx hb dX9_arePlaces_2 (by decide) ?_
  refine r_callS (As := [.int p0, .int 1, .int 4]) (rest := []) S hK hE hst hP hS (cw_X9_44 ht ⟨Nat.le_of_ble_eq_true rfl, Nat.le_of_ble_eq_true rfl⟩) rfl hl.1 rfl (Nat.le_of_ble_eq_true rfl) dX9_arePlaces_3 z2 (fun _ _ h => c_X9_within hG  h) hf (fun x1 M H locs hP hS bx1 hf => ?_)
  exact hret _ _ _ _ _ _ dX9_arePlaces_6 hP hS bx1 hf
theorem cw_X9_170 {R : Room} {s : State} {args : Array Value} (ht : ∀ w ∈ Tw, w.before args s = true) (hR : rm_X9_arePlaces.frames + 1 ≤ R.frames ∧ 8 + (1 + 11) + rm_X9_arePlaces.locals ≤ R.locals) : CallB R s args RX9 170 yX9_arePlaces cX9_arePlaces 1 (some .boolean) (ws_of yX9_arePlaces cX9_arePlaces 1 (some .boolean)) rm_X9_arePlaces 0 0 1 ∧ (Cond.static yX9_arePlaces).before args s = true := cw_S 1 ht k_765 k_766 k_63 k_767 (by decide +kernel) rfl rfl hR
def f_X9_reach (p0 : Nat) (p1 : Int32) (p2 : Int32) (p3 : Int32) (M : Mem) : Option (Int32 × Mem) :=
  bd (f_X9_arePlaces p2 M) fun x1 M =>
  jn (fun (v2 : Int32) (M : Mem) =>
    it2 (fun rc6 (v4 : Int32) (v5 : Int32) M =>
      if v5 < p1 then
        if v5 < (nI (gsz G1 p0)) then
          jn (fun (v7 : Int32) (M : Mem) =>
            jn (fun (v9 : Int32) (M : Mem) =>
              if v9 < p3 then
                rc6 v9 (v5 + 1) M
              else
                some (v5, M)
            ) fun k10 =>
            if v7 = 0 then
              k10 1 M
            else
              k10 (v4 + 1) M
          ) fun k8 =>
          if 0 < v5 then
            ld M p0 v5 (gsz G1 p0) fun x11 =>
            dv v2 <|
            ld M p0 (v5 - 1) (gsz G1 p0) fun x12 =>
            dv v2 <|
            if (x11 / v2) = (x12 / v2) then
              k8 1 M
            else
              k8 0 M
          else
            k8 0 M
        else
          some ((-1), M)
      else
        some ((-1), M)
    ) fuel 0 0 M
  ) fun k3 =>
  if x1 = 0 then
    sl cutsF 0 5 fun x13 =>
    k3 x13 M
  else
    sl cutsF p2 5 fun x14 =>
    k3 x14 M
def rm_X9_reach : Room := { frames := 2, cells := 0, slots := 0, locals := 42 }
set_option maxHeartbeats 4000000 in
set_option maxRecDepth 100000 in
theorem c_X9_reach {l : Launch} {D : va_G} {K : Ks} {ad : Nat → Nat} {A : Nat → Prop} {tC tA tP : Nat} {kK kV : Nat → Nat} (hG : Gok G1 ad A) {p0 : Nat} {p1 : Int32} {p2 : Int32} {p3 : Int32} (h0 : gcl G1 p0 = 20) {M : Mem} {r : Int32} {M' : Mem} (hf : f_X9_reach p0 p1 p2 p3 M = some (r, M')) : Ct l (E1 A tC tA tP kK kV) D K G1 ad A yX9_reach (ws_of yX9_reach cX9_reach 8 (some .int)) rm_X9_reach .int [.ref (ad p0), .int p1, .int p2, .int p3] M r M' := by
  have hst : Est A (E1 A tC tA tP kK kV) := est1
  refine Ct.ofW (by decide) (Nat.le_of_ble_eq_true rfl) ?_
  intro p e s m args below meth c Q H locs ls S hK hE hP hS hl hret
  have hx := S.1
  have hb := S.2.1
  have hown := S.2.2.2.1
  have ht := S.2.2.2.2
  have hl : lv_has ls 8 [(0, .ref (ad p0)), (1, .int p1), (2, .int p2), (3, .int p3)] := hl
  unfold f_X9_reach at hf
  refine lv_iload_n hx hb dX9_reach_0 rfl (lv_at hl 2 rfl) ?_
  refine r_callS (As := [.int p2]) (rest := []) S hK hE hst hP hS (cw_X9_170 ht ⟨Nat.le_of_ble_eq_true rfl, Nat.le_of_ble_eq_true rfl⟩) rfl hl.1 rfl (Nat.le_of_ble_eq_true rfl) dX9_reach_1 z2 (fun _ _ h => c_X9_arePlaces hG  h) hf (fun x1 M H locs hP hS bx1 hf => ?_)
  obtain ⟨k3, hk3, hf⟩ := jn_w hf
  have J3 : ∀ (v2 : Int32) (M : Mem) (H : Heap) (locs : List Loc) (ls : Array Slot), lv_has ls 8 [(0, .ref (ad p0)), (1, .int p1), (3, .int p3)] → va_P D classes (gws K G1 ad M) H → va_S A s.heap H locs → k3 v2 M = some (r, M') → W p l e rm_X9_reach s m args below meth c H locs 0 0 Q (F0 m 20 ls [.int v2]) := by
    intro v2 M H locs ls hl hP hS hf
    rw [hk3] at hf
    refine lv_istore (lv' := [(4, .int v2), (0, .ref (ad p0)), (1, .int p1), (3, .int p3)]) hx hb dX9_reach_20 hl (by decide) rfl (fun ls hl => ?_)
    refine lv_iconst (v := 0) hx hb dX9_reach_22 (by decide) ?_
    refine lv_istore (lv' := [(5, .int 0), (4, .int v2), (0, .ref (ad p0)), (1, .int p1), (3, .int p3)]) hx hb dX9_reach_23 hl (by decide) rfl (fun ls hl => ?_)
    refine lv_iconst (v := 0) hx hb dX9_reach_25 (by decide) ?_
    refine lv_istore (lv' := [(6, .int 0), (5, .int 0), (4, .int v2), (0, .ref (ad p0)), (1, .int p1), (3, .int p3)]) hx hb dX9_reach_26 hl (by decide) rfl (fun ls hl => ?_)
    obtain ⟨F6, hF6, hf⟩ := it2_g hf
    have L6 : ∀ (n : Nat) (v4 : Int32) (v5 : Int32) (M : Mem) (H : Heap) (locs : List Loc) (ls : Array Slot), lv_has ls 8 [(0, .ref (ad p0)), (1, .int p1), (3, .int p3), (4, .int v2), (5, .int v4), (6, .int v5)] → va_P D classes (gws K G1 ad M) H → va_S A s.heap H locs → it2 F6 n v4 v5 M = some (r, M') → W p l e rm_X9_reach s m args below meth c H locs 0 0 Q (F0 m 28 ls []) := by
      intro n
      induction n with
      | zero => intro v4 v5 M H locs ls hl hP hS hf; exact nomatch hf
      | succ n ih6 =>
        intro v4 v5 M H locs ls hl hP hS hf
        obtain ⟨rc6, hrc6, hf⟩ := it2_w hf
        rw [← hrc6] at ih6
        rw [hF6] at hf
        refine lv_iload hx hb dX9_reach_28 (lv_at hl 5 rfl) ?_
        refine lv_iload_n hx hb dX9_reach_30 rfl (lv_at hl 1 rfl) ?_
        refine r_icmp_ge (tgt := 102) S dX9_reach_31 (by decide) hf (fun hf => ?_) (fun hf => ?_)
        · refine lv_iconst (v := (-1)) hx hb dX9_reach_102 (by decide) ?_
          exact hret _ _ _ _ _ _ dX9_reach_103 hP hS rfl hf
        · refine lv_iload hx hb dX9_reach_34 (lv_at hl 5 rfl) ?_
          refine lv_aload_n hx hb dX9_reach_36 rfl (lv_at hl 0 rfl) ?_
          refine r_alen S hK hP h0 dX9_reach_37 ?_
          refine r_icmp_ge (tgt := 102) S dX9_reach_38 (by decide) hf (fun hf => ?_) (fun hf => ?_)
          · refine lv_iconst (v := (-1)) hx hb dX9_reach_102 (by decide) ?_
            exact hret _ _ _ _ _ _ dX9_reach_103 hP hS rfl hf
          · refine lv_iload hx hb dX9_reach_41 (lv_at hl 5 rfl) ?_
            obtain ⟨k8, hk8, hf⟩ := jn_w hf
            have J8 : ∀ (v7 : Int32) (M : Mem) (H : Heap) (locs : List Loc) (ls : Array Slot), lv_has ls 8 [(0, .ref (ad p0)), (1, .int p1), (3, .int p3), (4, .int v2), (5, .int v4), (6, .int v5)] → va_P D classes (gws K G1 ad M) H → va_S A s.heap H locs → k8 v7 M = some (r, M') → W p l e rm_X9_reach s m args below meth c H locs 0 0 Q (F0 m 70 ls [.int v7]) := by
              intro v7 M H locs ls hl hP hS hf
              rw [hk8] at hf
              refine lv_istore (lv' := [(7, .int v7), (0, .ref (ad p0)), (1, .int p1), (3, .int p3), (4, .int v2), (5, .int v4), (6, .int v5)]) hx hb dX9_reach_70 hl (by decide) rfl (fun ls hl => ?_)
              refine lv_iload hx hb dX9_reach_72 (lv_at hl 0 rfl) ?_
              obtain ⟨k10, hk10, hf⟩ := jn_w hf
              have J10 : ∀ (v9 : Int32) (M : Mem) (H : Heap) (locs : List Loc) (ls : Array Slot), lv_has ls 8 [(0, .ref (ad p0)), (1, .int p1), (3, .int p3), (4, .int v2), (6, .int v5)] → va_P D classes (gws K G1 ad M) H → va_S A s.heap H locs → k10 v9 M = some (r, M') → W p l e rm_X9_reach s m args below meth c H locs 0 0 Q (F0 m 85 ls [.int v9]) := by
                intro v9 M H locs ls hl hP hS hf
                rw [hk10] at hf
                refine lv_istore (lv' := [(5, .int v9), (0, .ref (ad p0)), (1, .int p1), (3, .int p3), (4, .int v2), (6, .int v5)]) hx hb dX9_reach_85 hl (by decide) rfl (fun ls hl => ?_)
                refine lv_iload hx hb dX9_reach_87 (lv_at hl 0 rfl) ?_
                refine lv_iload_n hx hb dX9_reach_89 rfl (lv_at hl 3 rfl) ?_
                refine r_icmp_lt (tgt := 96) S dX9_reach_90 (by decide) hf (fun hf => ?_) (fun hf => ?_)
                · refine lv_iinc (v := (v5 + 1)) (lv' := [(6, .int (v5 + 1)), (5, .int v9), (0, .ref (ad p0)), (1, .int p1), (3, .int p3), (4, .int v2)]) hx hb dX9_reach_96 hl (k := 5) rfl rfl (by decide) rfl (fun ls hl => ?_)
                  refine lv_goto (tgt := 28) hx hb dX9_reach_99 (by decide) ?_
                  exact ih6 v9 (v5 + 1) M H locs ls (lv_sub hl [2, 3, 4, 5, 1, 0] rfl) hP hS hf
                · refine lv_iload hx hb dX9_reach_93 (lv_at hl 5 rfl) ?_
                  exact hret _ _ _ _ _ _ dX9_reach_95 hP hS rfl hf
              refine r_if_eq (tgt := 84) S dX9_reach_74 (by decide) hf (fun hf => ?_) (fun hf => ?_)
              · refine lv_iconst (v := 1) hx hb dX9_reach_84 (by decide) ?_
                exact J10 1 M H locs ls (lv_sub hl [1, 2, 3, 4, 6] rfl) hP hS hf
              · refine lv_iload hx hb dX9_reach_77 (lv_at hl 5 rfl) ?_
                refine lv_iconst (v := 1) hx hb dX9_reach_79 (by decide) ?_
                refine lv_iadd hx hb dX9_reach_80 ?_
                refine lv_goto (tgt := 85) hx hb dX9_reach_81 (by decide) ?_
                exact J10 (v4 + 1) M H locs ls (lv_sub hl [1, 2, 3, 4, 6] rfl) hP hS hf
            refine r_if_le (tgt := 69) S dX9_reach_43 (by decide) hf (fun hf => ?_) (fun hf => ?_)
            · refine lv_iconst (v := 0) hx hb dX9_reach_69 (by decide) ?_
              exact J8 0 M H locs ls (lv_sub hl [0, 1, 2, 3, 4, 5] rfl) hP hS hf
            · refine lv_aload_n hx hb dX9_reach_46 rfl (lv_at hl 0 rfl) ?_
              refine lv_iload hx hb dX9_reach_47 (lv_at hl 5 rfl) ?_
              refine r_iald S hK hP ⟨h0, rfl⟩ dX9_reach_49 hf (fun x11 hf => ?_)
              refine lv_iload hx hb dX9_reach_50 (lv_at hl 3 rfl) ?_
              refine r_idiv S dX9_reach_52 hf (fun hf => ?_)
              refine lv_aload_n hx hb dX9_reach_53 rfl (lv_at hl 0 rfl) ?_
              refine lv_iload hx hb dX9_reach_54 (lv_at hl 5 rfl) ?_
              refine lv_iconst (v := 1) hx hb dX9_reach_56 (by decide) ?_
              refine lv_isub hx hb dX9_reach_57 ?_
              refine r_iald S hK hP ⟨h0, rfl⟩ dX9_reach_58 hf (fun x12 hf => ?_)
              refine lv_iload hx hb dX9_reach_59 (lv_at hl 3 rfl) ?_
              refine r_idiv S dX9_reach_61 hf (fun hf => ?_)
              refine r_icmp_ne (tgt := 69) S dX9_reach_62 (by decide) hf (fun hf => ?_) (fun hf => ?_)
              · refine lv_iconst (v := 0) hx hb dX9_reach_69 (by decide) ?_
                exact J8 0 M H locs ls (lv_sub hl [0, 1, 2, 3, 4, 5] rfl) hP hS hf
              · refine lv_iconst (v := 1) hx hb dX9_reach_65 (by decide) ?_
                refine lv_goto (tgt := 70) hx hb dX9_reach_66 (by decide) ?_
                exact J8 1 M H locs ls (lv_sub hl [0, 1, 2, 3, 4, 5] rfl) hP hS hf
    exact L6 _ 0 0 M H locs ls (lv_sub hl [3, 4, 5, 2, 1, 0] rfl) hP hS hf
  refine r_if_eq (tgt := 15) S dX9_reach_4 (by decide) hf (fun hf => ?_) (fun hf => ?_)
  · refine va_gets hx hb hE.1.1 hS hown (ht _ k_780) (fun _ h => h) dX9_reach_15 ?_
    refine lv_iconst (v := 0) hx hb dX9_reach_18 (by decide) ?_
    refine r_sl S hS hE.1.2 dX9_reach_19 hf (fun x13 hf => ?_)
    exact J3 x13 M H locs ls (lv_sub hl [0, 1, 3] rfl) hP hS hf
  · refine va_gets hx hb hE.1.1 hS hown (ht _ k_780) (fun _ h => h) dX9_reach_7 ?_
    refine lv_iload_n hx hb dX9_reach_10 rfl (lv_at hl 2 rfl) ?_
    refine r_sl S hS hE.1.2 dX9_reach_11 hf (fun x14 hf => ?_)
    refine lv_goto (tgt := 20) hx hb dX9_reach_12 (by decide) ?_
    exact J3 x14 M H locs ls (lv_sub hl [0, 1, 3] rfl) hP hS hf
theorem cw_X9_183 {R : Room} {s : State} {args : Array Value} (ht : ∀ w ∈ Tw, w.before args s = true) (hR : rm_X9_reach.frames + 1 ≤ R.frames ∧ 8 + (8 + 11) + rm_X9_reach.locals ≤ R.locals) : CallB R s args RX9 183 yX9_reach cX9_reach 8 (some .int) (ws_of yX9_reach cX9_reach 8 (some .int)) rm_X9_reach 0 0 4 ∧ (Cond.static yX9_reach).before args s = true := cw_S 4 ht k_777 k_778 k_63 k_779 (by decide +kernel) rfl rfl hR
def f_X9_longest (p0 : Nat) (p1 : Int32) (p2 : Int32) (M : Mem) : Option (Int32 × Mem) :=
  it1 (fun rc2 (v1 : Int32) M =>
    if v1 < p1 then
      bd (f_X9_reach p0 p1 p2 (v1 + 1) M) fun x3 M =>
      if x3 < 0 then
        some (v1, M)
      else
        rc2 (v1 + 1) M
    else
      some (v1, M)
  ) fuel 0 M
def rm_X9_longest : Room := { frames := 3, cells := 0, slots := 0, locals := 69 }
set_option maxHeartbeats 4000000 in
set_option maxRecDepth 100000 in
theorem c_X9_longest {l : Launch} {D : va_G} {K : Ks} {ad : Nat → Nat} {A : Nat → Prop} {tC tA tP : Nat} {kK kV : Nat → Nat} (hG : Gok G1 ad A) {p0 : Nat} {p1 : Int32} {p2 : Int32} (h0 : gcl G1 p0 = 20) {M : Mem} {r : Int32} {M' : Mem} (hf : f_X9_longest p0 p1 p2 M = some (r, M')) : Ct l (E1 A tC tA tP kK kV) D K G1 ad A yX9_longest (ws_of yX9_longest cX9_longest 4 (some .int)) rm_X9_longest .int [.ref (ad p0), .int p1, .int p2] M r M' := by
  have hst : Est A (E1 A tC tA tP kK kV) := est1
  refine Ct.ofW (by decide) (Nat.le_of_ble_eq_true rfl) ?_
  intro p e s m args below meth c Q H locs ls S hK hE hP hS hl hret
  have hx := S.1
  have hb := S.2.1
  have hown := S.2.2.2.1
  have ht := S.2.2.2.2
  have hl : lv_has ls 4 [(0, .ref (ad p0)), (1, .int p1), (2, .int p2)] := hl
  unfold f_X9_longest at hf
  refine lv_iconst (v := 0) hx hb dX9_longest_0 (by decide) ?_
  refine lv_istore_n (lv' := [(3, .int 0), (0, .ref (ad p0)), (1, .int p1), (2, .int p2)]) hx hb dX9_longest_1 rfl hl (by decide) rfl (fun ls hl => ?_)
  obtain ⟨F2, hF2, hf⟩ := it1_g hf
  have L2 : ∀ (n : Nat) (v1 : Int32) (M : Mem) (H : Heap) (locs : List Loc) (ls : Array Slot), lv_has ls 4 [(0, .ref (ad p0)), (1, .int p1), (2, .int p2), (3, .int v1)] → va_P D classes (gws K G1 ad M) H → va_S A s.heap H locs → it1 F2 n v1 M = some (r, M') → W p l e rm_X9_longest s m args below meth c H locs 0 0 Q (F0 m 2 ls []) := by
    intro n
    induction n with
    | zero => intro v1 M H locs ls hl hP hS hf; exact nomatch hf
    | succ n ih2 =>
      intro v1 M H locs ls hl hP hS hf
      obtain ⟨rc2, hrc2, hf⟩ := it1_w hf
      rw [← hrc2] at ih2
      rw [hF2] at hf
      refine lv_iload_n hx hb dX9_longest_2 rfl (lv_at hl 3 rfl) ?_
      refine lv_iload_n hx hb dX9_longest_3 rfl (lv_at hl 1 rfl) ?_
      refine r_icmp_ge (tgt := 25) S dX9_longest_4 (by decide) hf (fun hf => ?_) (fun hf => ?_)
      · refine lv_iload_n hx hb dX9_longest_25 rfl (lv_at hl 3 rfl) ?_
        exact hret _ _ _ _ _ _ dX9_longest_26 hP hS rfl hf
      · refine lv_aload_n hx hb dX9_longest_7 rfl (lv_at hl 0 rfl) ?_
        refine lv_iload_n hx hb dX9_longest_8 rfl (lv_at hl 1 rfl) ?_
        refine lv_iload_n hx hb dX9_longest_9 rfl (lv_at hl 2 rfl) ?_
        refine lv_iload_n hx hb dX9_longest_10 rfl (lv_at hl 3 rfl) ?_
        refine lv_iconst (v := 1) hx hb dX9_longest_11 (by decide) ?_
        refine lv_iadd hx hb dX9_longest_12 ?_
        refine r_callS (As := [.ref (ad p0), .int p1, .int p2, .int (v1 + 1)]) (rest := []) S hK hE hst hP hS (cw_X9_183 ht ⟨Nat.le_of_ble_eq_true rfl, Nat.le_of_ble_eq_true rfl⟩) rfl hl.1 rfl (Nat.le_of_ble_eq_true rfl) dX9_longest_13 z2 (fun _ _ h => c_X9_reach hG  h0 h) hf (fun x3 M H locs hP hS bx3 hf => ?_)
        refine r_if_lt (tgt := 25) S dX9_longest_16 (by decide) hf (fun hf => ?_) (fun hf => ?_)
        · refine lv_iload_n hx hb dX9_longest_25 rfl (lv_at hl 3 rfl) ?_
          exact hret _ _ _ _ _ _ dX9_longest_26 hP hS rfl hf
        · refine lv_iinc (v := (v1 + 1)) (lv' := [(3, .int (v1 + 1)), (0, .ref (ad p0)), (1, .int p1), (2, .int p2)]) hx hb dX9_longest_19 hl (k := 3) rfl rfl (by decide) rfl (fun ls hl => ?_)
          refine lv_goto (tgt := 2) hx hb dX9_longest_22 (by decide) ?_
          exact ih2 (v1 + 1) M H locs ls (lv_sub hl [1, 2, 3, 0] rfl) hP hS hf
  exact L2 _ 0 M H locs ls (lv_sub hl [1, 2, 3, 0] rfl) hP hS hf
theorem cw_X9_173 {R : Room} {s : State} {args : Array Value} (ht : ∀ w ∈ Tw, w.before args s = true) (hR : rm_X6_layLine.frames + 1 ≤ R.frames ∧ 8 + (5 + 11) + rm_X6_layLine.locals ≤ R.locals) : CallW R s args RX9 RX6 173 yX6_layLine cX6_layLine 5 (some .int) (ws_of yX6_layLine cX6_layLine 5 (some .int)) rm_X6_layLine 0 0 1 := cw_V 1 ht k_768 k_769 k_770 k_64 k_771 (by decide +kernel) rfl rfl hR
theorem cw_X9_179 {R : Room} {s : State} {args : Array Value} (ht : ∀ w ∈ Tw, w.before args s = true) (hR : rm_X9_longest.frames + 1 ≤ R.frames ∧ 8 + (4 + 11) + rm_X9_longest.locals ≤ R.locals) : CallB R s args RX9 179 yX9_longest cX9_longest 4 (some .int) (ws_of yX9_longest cX9_longest 4 (some .int)) rm_X9_longest 0 0 3 ∧ (Cond.static yX9_longest).before args s = true := cw_S 3 ht k_774 k_775 k_63 k_776 (by decide +kernel) rfl rfl hR
theorem cw_X9_187 {R : Room} {s : State} {args : Array Value} (ht : ∀ w ∈ Tw, w.before args s = true) (hR : rm_X3_at.frames + 1 ≤ R.frames ∧ 8 + (3 + 11) + rm_X3_at.locals ≤ R.locals) : CallW R s args RX9 RX3 187 yX3_at cX3_at 3 (some .int) (ws_of yX3_at cX3_at 3 (some .int)) rm_X3_at 0 0 2 := cw_V 2 ht k_781 k_753 k_754 k_67 k_755 (by decide +kernel) rfl rfl hR
theorem cw_X9_190 {R : Room} {s : State} {args : Array Value} (ht : ∀ w ∈ Tw, w.before args s = true) (hR : rm_X6_odds.frames + 1 ≤ R.frames ∧ 8 + (8 + 11) + rm_X6_odds.locals ≤ R.locals) : CallW R s args RX9 RX6 190 yX6_odds cX6_odds 8 (some .int) (ws_of yX6_odds cX6_odds 8 (some .int)) rm_X6_odds 0 0 3 := cw_V 3 ht k_782 k_783 k_784 k_64 k_785 (by decide +kernel) rfl rfl hR
section
variable {p : Program} {l : Launch} {e : Env} {R : Room} {s : State} {m : MethodId} {args : Array Value} {below : List Frame} {meth : Method} {c : Code} {H : Heap} {locs : List Loc} {cells slots : Nat} {Q : State → Prop} {cc : ByteArray} {pc : Nat} {ls : Array Slot} {rest : List Value} {nL : Nat} {D : va_G} {K : Ks} {ad : Nat → Nat} {A : Nat → Prop} {M : Mem} {β : Type} {z : β}
theorem gf_X9_176 (S : CallFix p m c cc nL s args Tw RX9) (hK : va_K D classes (gty K) s) (hP : va_P D classes (gws K G1 ad M) H) {a : Nat} {kk : Nat → Option β} (ha : gcl G1 a = 6) (hdg : decode cc pc = .ok (.getfield 176, 3)) (hf : vv (grf G1 a 9) kk = some z) (w : ∀ b, gcl G1 b = 20 ∧ gsz G1 b = 12 → kk b = some z → W p l e R s m args below meth c H locs cells slots Q (F0 m (pc + 3) ls (.ref (ad b) :: rest))) : W p l e R s m args below meth c H locs cells slots Q (F0 m pc ls (.ref (ad a) :: rest)) := r_getr S hK hP (T := TX6) inX6 rfl (by decide) (by decide) ha (sf_X6_9 ha).1 k_255 hdg hf (fun b e => w b (by rw [e]; exact (sf_X6_9 ha).2))
end
def f_X9_run (o : Nat) (p1 : Int32) (p2 : Int32) (p3 : Int32) (M : Mem) : Option (Int32 × Mem) :=
  bd (f_X9_within p1 0 5 M) fun x1 M =>
  if x1 = 0 then
    some ((-1000000001), M)
  else
    bd (f_X9_arePlaces p2 M) fun x2 M =>
    if x2 = 0 then
      some ((-1000000001), M)
    else
      bd (f_X9_within p3 0 2 M) fun x3 M =>
      if x3 = 0 then
        some ((-1000000001), M)
      else
        vv (grf G1 o 0) fun x4 =>
        bd (f_X6_layLine x4 p1 M) fun x5 M =>
        vv (grf G1 o 0) fun x6 =>
        vv (grf G1 x6 9) fun x7 =>
        bd (f_X9_longest x7 x5 p2 M) fun x8 M =>
        if p3 = 0 then
          some (x8, M)
        else
          vv (grf G1 o 0) fun x9 =>
          vv (grf G1 x9 9) fun x10 =>
          bd (f_X9_reach x10 x5 p2 x8 M) fun x11 M =>
          vv ((x11 - x8) + 1) fun x12 =>
          if p3 = 1 then
            if x8 < 1 then
              some ((-1000000005), M)
            else
              vv (grf G1 o 0) fun x15 =>
              vv (grf G1 x15 2) fun x16 =>
              bd (f_X3_at x16 p1 x12 M) fun x17 M =>
              some (x17, M)
          else
            vv (grf G1 o 0) fun x13 =>
            bd (f_X6_odds x13 p1 x12 x8 M) fun x14 M =>
            some (x14, M)
def rm_X9_run : Room := { frames := 5, cells := 0, slots := 0, locals := 120 }
set_option maxHeartbeats 4000000 in
set_option maxRecDepth 100000 in
theorem c_X9_run {l : Launch} {D : va_G} {K : Ks} {ad : Nat → Nat} {A : Nat → Prop} {tC tA tP : Nat} {kK kV : Nat → Nat} (hG : Gok G1 ad A) {o : Nat} {p1 : Int32} {p2 : Int32} {p3 : Int32} (h0 : gcl G1 o = 9) {M : Mem} {r : Int32} {M' : Mem} (hf : f_X9_run o p1 p2 p3 M = some (r, M')) : Ct l (E1 A tC tA tP kK kV) D K G1 ad A yX9_run (ws_of yX9_run cX9_run 7 (some .int)) rm_X9_run .int [.ref (ad o), .int p1, .int p2, .int p3] M r M' := by
  have hst : Est A (E1 A tC tA tP kK kV) := est1
  refine Ct.ofW (by decide) (Nat.le_of_ble_eq_true rfl) ?_
  intro p e s m args below meth c Q H locs ls S hK hE hP hS hl hret
  have hx := S.1
  have hb := S.2.1
  have hown := S.2.2.2.1
  have ht := S.2.2.2.2
  have hl : lv_has ls 7 [(0, .ref (ad o)), (1, .int p1), (2, .int p2), (3, .int p3)] := hl
  unfold f_X9_run at hf
  refine lv_iload_n hx hb dX9_run_0 rfl (lv_at hl 1 rfl) ?_
  refine lv_iconst (v := 0) hx hb dX9_run_1 (by decide) ?_
  refine lv_iconst (v := 5) hx hb dX9_run_2 (by decide) ?_
  refine r_callS (As := [.int p1, .int 0, .int 5]) (rest := []) S hK hE hst hP hS (cw_X9_44 ht ⟨Nat.le_of_ble_eq_true rfl, Nat.le_of_ble_eq_true rfl⟩) rfl hl.1 rfl (Nat.le_of_ble_eq_true rfl) dX9_run_3 z2 (fun _ _ h => c_X9_within hG  h) hf (fun x1 M H locs hP hS bx1 hf => ?_)
  refine r_if_eq (tgt := 25) S dX9_run_6 (by decide) hf (fun hf => ?_) (fun hf => ?_)
  · refine lv_ldc (v := (-1000000001)) hx hb hown (ht _ k_405) dX9_run_25 ?_
    exact hret _ _ _ _ _ _ dX9_run_27 hP hS rfl hf
  · refine lv_iload_n hx hb dX9_run_9 rfl (lv_at hl 2 rfl) ?_
    refine r_callS (As := [.int p2]) (rest := []) S hK hE hst hP hS (cw_X9_170 ht ⟨Nat.le_of_ble_eq_true rfl, Nat.le_of_ble_eq_true rfl⟩) rfl hl.1 rfl (Nat.le_of_ble_eq_true rfl) dX9_run_10 z2 (fun _ _ h => c_X9_arePlaces hG  h) hf (fun x2 M H locs hP hS bx2 hf => ?_)
    refine r_if_eq (tgt := 25) S dX9_run_13 (by decide) hf (fun hf => ?_) (fun hf => ?_)
    · refine lv_ldc (v := (-1000000001)) hx hb hown (ht _ k_405) dX9_run_25 ?_
      exact hret _ _ _ _ _ _ dX9_run_27 hP hS rfl hf
    · refine lv_iload_n hx hb dX9_run_16 rfl (lv_at hl 3 rfl) ?_
      refine lv_iconst (v := 0) hx hb dX9_run_17 (by decide) ?_
      refine lv_iconst (v := 2) hx hb dX9_run_18 (by decide) ?_
      refine r_callS (As := [.int p3, .int 0, .int 2]) (rest := []) S hK hE hst hP hS (cw_X9_44 ht ⟨Nat.le_of_ble_eq_true rfl, Nat.le_of_ble_eq_true rfl⟩) rfl hl.1 rfl (Nat.le_of_ble_eq_true rfl) dX9_run_19 z2 (fun _ _ h => c_X9_within hG  h) hf (fun x3 M H locs hP hS bx3 hf => ?_)
      refine r_if_ne (tgt := 28) S dX9_run_22 (by decide) hf (fun hf => ?_) (fun hf => ?_)
      · refine lv_aload_n hx hb dX9_run_28 rfl (lv_at hl 0 rfl) ?_
        refine gf_X9_10 S hK hP h0 dX9_run_29 hf (fun x4 hx4 hf => ?_)
        refine lv_iload_n hx hb dX9_run_32 rfl (lv_at hl 1 rfl) ?_
        refine r_callV (As := [.int p1]) (rest := []) S hK hE hst hP hS hx4 (by decide) rfl (cw_X9_173 ht ⟨Nat.le_of_ble_eq_true rfl, Nat.le_of_ble_eq_true rfl⟩) rfl hl.1 rfl (Nat.le_of_ble_eq_true rfl) dX9_run_33 z2 (fun _ _ h => c_X6_layLine hG  hx4 h) hf (fun x5 M H locs hP hS bx5 hf => ?_)
        refine lv_istore (lv' := [(4, .int x5), (0, .ref (ad o)), (1, .int p1), (2, .int p2), (3, .int p3)]) hx hb dX9_run_36 hl (by decide) rfl (fun ls hl => ?_)
        refine lv_aload_n hx hb dX9_run_38 rfl (lv_at hl 1 rfl) ?_
        refine gf_X9_10 S hK hP h0 dX9_run_39 hf (fun x6 hx6 hf => ?_)
        refine gf_X9_176 S hK hP hx6 dX9_run_42 hf (fun x7 hx7 hf => ?_)
        refine lv_iload hx hb dX9_run_45 (lv_at hl 0 rfl) ?_
        refine lv_iload_n hx hb dX9_run_47 rfl (lv_at hl 3 rfl) ?_
        refine r_callS (As := [.ref (ad x7), .int x5, .int p2]) (rest := []) S hK hE hst hP hS (cw_X9_179 ht ⟨Nat.le_of_ble_eq_true rfl, Nat.le_of_ble_eq_true rfl⟩) rfl hl.1 rfl (Nat.le_of_ble_eq_true rfl) dX9_run_48 z2 (fun _ _ h => c_X9_longest hG  hx7.1 h) hf (fun x8 M H locs hP hS bx8 hf => ?_)
        refine lv_istore (lv' := [(5, .int x8), (4, .int x5), (0, .ref (ad o)), (1, .int p1), (2, .int p2), (3, .int p3)]) hx hb dX9_run_51 hl (by decide) rfl (fun ls hl => ?_)
        refine lv_iload_n hx hb dX9_run_53 rfl (lv_at hl 5 rfl) ?_
        refine r_if_ne (tgt := 60) S dX9_run_54 (by decide) hf (fun hf => ?_) (fun hf => ?_)
        · refine lv_aload_n hx hb dX9_run_60 rfl (lv_at hl 2 rfl) ?_
          refine gf_X9_10 S hK hP h0 dX9_run_61 hf (fun x9 hx9 hf => ?_)
          refine gf_X9_176 S hK hP hx9 dX9_run_64 hf (fun x10 hx10 hf => ?_)
          refine lv_iload hx hb dX9_run_67 (lv_at hl 1 rfl) ?_
          refine lv_iload_n hx hb dX9_run_69 rfl (lv_at hl 4 rfl) ?_
          refine lv_iload hx hb dX9_run_70 (lv_at hl 0 rfl) ?_
          refine r_callS (As := [.ref (ad x10), .int x5, .int p2, .int x8]) (rest := []) S hK hE hst hP hS (cw_X9_183 ht ⟨Nat.le_of_ble_eq_true rfl, Nat.le_of_ble_eq_true rfl⟩) rfl hl.1 rfl (Nat.le_of_ble_eq_true rfl) dX9_run_72 z2 (fun _ _ h => c_X9_reach hG  hx10.1 h) hf (fun x11 M H locs hP hS bx11 hf => ?_)
          refine lv_iload hx hb dX9_run_75 (lv_at hl 0 rfl) ?_
          refine lv_isub hx hb dX9_run_77 ?_
          refine lv_iconst (v := 1) hx hb dX9_run_78 (by decide) ?_
          refine lv_iadd hx hb dX9_run_79 ?_
          refine r_vi hf (fun x12 hf => ?_)
          refine lv_istore (lv' := [(6, .int x12), (5, .int x8), (4, .int x5), (0, .ref (ad o)), (1, .int p1), (2, .int p2), (3, .int p3)]) hx hb dX9_run_80 hl (by decide) rfl (fun ls hl => ?_)
          refine lv_iload_n hx hb dX9_run_82 rfl (lv_at hl 6 rfl) ?_
          refine lv_iconst (v := 1) hx hb dX9_run_83 (by decide) ?_
          refine r_icmp_ne (tgt := 112) S dX9_run_84 (by decide) hf (fun hf => ?_) (fun hf => ?_)
          · refine lv_aload_n hx hb dX9_run_112 rfl (lv_at hl 3 rfl) ?_
            refine gf_X9_10 S hK hP h0 dX9_run_113 hf (fun x13 hx13 hf => ?_)
            refine lv_iload_n hx hb dX9_run_116 rfl (lv_at hl 4 rfl) ?_
            refine lv_iload hx hb dX9_run_117 (lv_at hl 0 rfl) ?_
            refine lv_iload hx hb dX9_run_119 (lv_at hl 1 rfl) ?_
            refine r_callV (As := [.int p1, .int x12, .int x8]) (rest := []) S hK hE hst hP hS hx13 (by decide) rfl (cw_X9_190 ht ⟨Nat.le_of_ble_eq_true rfl, Nat.le_of_ble_eq_true rfl⟩) rfl hl.1 rfl (Nat.le_of_ble_eq_true rfl) dX9_run_121 z2 (fun _ _ h => c_X6_odds hG  hx13 h) hf (fun x14 M H locs hP hS bx14 hf => ?_)
            exact hret _ _ _ _ _ _ dX9_run_124 hP hS rfl hf
          · refine lv_iload hx hb dX9_run_87 (lv_at hl 1 rfl) ?_
            refine lv_iconst (v := 1) hx hb dX9_run_89 (by decide) ?_
            refine r_icmp_ge (tgt := 98) S dX9_run_90 (by decide) hf (fun hf => ?_) (fun hf => ?_)
            · refine lv_aload_n hx hb dX9_run_98 rfl (lv_at hl 3 rfl) ?_
              refine gf_X9_10 S hK hP h0 dX9_run_99 hf (fun x15 hx15 hf => ?_)
              refine gf_X9_114 S hK hP hx15 dX9_run_102 hf (fun x16 hx16 hf => ?_)
              refine lv_iload_n hx hb dX9_run_105 rfl (lv_at hl 4 rfl) ?_
              refine lv_iload hx hb dX9_run_106 (lv_at hl 0 rfl) ?_
              refine r_callV (As := [.int p1, .int x12]) (rest := []) S hK hE hst hP hS hx16 (by decide) rfl (cw_X9_187 ht ⟨Nat.le_of_ble_eq_true rfl, Nat.le_of_ble_eq_true rfl⟩) rfl hl.1 rfl (Nat.le_of_ble_eq_true rfl) dX9_run_108 z2 (fun _ _ h => c_X3_at hG  hx16 h) hf (fun x17 M H locs hP hS bx17 hf => ?_)
              exact hret _ _ _ _ _ _ dX9_run_111 hP hS rfl hf
            · refine lv_ldc (v := (-1000000005)) hx hb hown (ht _ k_439) dX9_run_93 ?_
              refine lv_goto (tgt := 111) hx hb dX9_run_95 (by decide) ?_
              exact hret _ _ _ _ _ _ dX9_run_111 hP hS rfl hf
        · refine lv_iload hx hb dX9_run_57 (lv_at hl 0 rfl) ?_
          exact hret _ _ _ _ _ _ dX9_run_59 hP hS rfl hf
      · refine lv_ldc (v := (-1000000001)) hx hb hown (ht _ k_405) dX9_run_25 ?_
        exact hret _ _ _ _ _ _ dX9_run_27 hP hS rfl hf
