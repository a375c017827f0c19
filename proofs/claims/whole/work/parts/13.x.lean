def f_X9_soon (o : Nat) (p1 : Int32) (p2 : Int32) (M : Mem) : Option (Int32 × Mem) :=
  bd (f_X9_within p1 2 12 M) fun x1 M =>
  if x1 = 0 then
    some ((-1000000001), M)
  else
    bd (f_X9_arePlaces p2 M) fun x2 M =>
    if x2 = 0 then
      some ((-1000000001), M)
    else
      it2 (fun rc5 (v3 : Int32) (v4 : Int32) M =>
        if v4 < 6 then
          vv (grf G1 o 0) fun x6 =>
          bd (f_X6_layLine x6 v4 M) fun x7 M =>
          vv (grf G1 o 0) fun x8 =>
          vv (grf G1 x8 2) fun x9 =>
          vv (grf G1 o 0) fun x10 =>
          vv (grf G1 x10 9) fun x11 =>
          bd (f_X9_reach x11 x7 p2 p1 M) fun x12 M =>
          bd (f_X3_at x9 v4 x12 M) fun x13 M =>
          vv (grf G1 o 0) fun x14 =>
          vv (grf G1 x14 0) fun x15 =>
          bd (f_X0_has x15 x13 M) fun x16 M =>
          if x16 = 0 then
            rc5 v3 (v4 + 1) M
          else
            vv (grf G1 o 0) fun x17 =>
            vv (grf G1 x17 0) fun x18 =>
            bd (f_X0_yearOf x18 x13 M) fun x19 M =>
            if v3 = (-1000000005) then
              rc5 x19 (v4 + 1) M
            else
              if x19 < v3 then
                rc5 x19 (v4 + 1) M
              else
                rc5 v3 (v4 + 1) M
        else
          some (v3, M)
      ) fuel (-1000000005) 0 M
def rm_X9_soon : Room := { frames := 3, cells := 0, slots := 0, locals := 69 }
set_option maxHeartbeats 4000000 in
set_option maxRecDepth 100000 in
theorem c_X9_soon {l : Launch} {D : va_G} {K : Ks} {ad : Nat → Nat} {A : Nat → Prop} {tC tA tP : Nat} {kK kV : Nat → Nat} (hG : Gok G1 ad A) {o : Nat} {p1 : Int32} {p2 : Int32} (h0 : gcl G1 o = 9) {M : Mem} {r : Int32} {M' : Mem} (hf : f_X9_soon o p1 p2 M = some (r, M')) : Ct l (E1 A tC tA tP kK kV) D K G1 ad A yX9_soon (ws_of yX9_soon cX9_soon 8 (some .int)) rm_X9_soon .int [.ref (ad o), .int p1, .int p2] M r M' := by
  have hst : Est A (E1 A tC tA tP kK kV) := est1
  refine Ct.ofW (by decide) (Nat.le_of_ble_eq_true rfl) ?_
  intro p e s m args below meth c Q H locs ls S hK hE hP hS hl hret
  have hx := S.1
  have hb := S.2.1
  have hown := S.2.2.2.1
  have ht := S.2.2.2.2
  have hl : lv_has ls 8 [(0, .ref (ad o)), (1, .int p1), (2, .int p2)] := hl
  unfold f_X9_soon at hf
  refine lv_iload_n hx hb dX9_soon_0 rfl (lv_at hl 1 rfl) ?_
  refine lv_iconst (v := 2) hx hb dX9_soon_1 (by decide) ?_
  refine lv_bipush (v := 12) hx hb dX9_soon_2 (by decide) ?_
  refine r_callS (As := [.int p1, .int 2, .int 12]) (rest := []) S hK hE hst hP hS (cw_X9_44 ht ⟨Nat.le_of_ble_eq_true rfl, Nat.le_of_ble_eq_true rfl⟩) rfl hl.1 rfl (Nat.le_of_ble_eq_true rfl) dX9_soon_4 z2 (fun _ _ h => c_X9_within hG  h) hf (fun x1 M H locs hP hS bx1 hf => ?_)
  refine r_if_eq (tgt := 17) S dX9_soon_7 (by decide) hf (fun hf => ?_) (fun hf => ?_)
  · refine lv_ldc (v := (-1000000001)) hx hb hown (ht _ k_405) dX9_soon_17 ?_
    exact hret _ _ _ _ _ _ dX9_soon_19 hP hS rfl hf
  · refine lv_iload_n hx hb dX9_soon_10 rfl (lv_at hl 2 rfl) ?_
    refine r_callS (As := [.int p2]) (rest := []) S hK hE hst hP hS (cw_X9_170 ht ⟨Nat.le_of_ble_eq_true rfl, Nat.le_of_ble_eq_true rfl⟩) rfl hl.1 rfl (Nat.le_of_ble_eq_true rfl) dX9_soon_11 z2 (fun _ _ h => c_X9_arePlaces hG  h) hf (fun x2 M H locs hP hS bx2 hf => ?_)
    refine r_if_ne (tgt := 20) S dX9_soon_14 (by decide) hf (fun hf => ?_) (fun hf => ?_)
    · refine lv_ldc (v := (-1000000005)) hx hb hown (ht _ k_439) dX9_soon_20 ?_
      refine lv_istore_n (lv' := [(3, .int (-1000000005)), (0, .ref (ad o)), (1, .int p1), (2, .int p2)]) hx hb dX9_soon_22 rfl hl (by decide) rfl (fun ls hl => ?_)
      refine lv_iconst (v := 0) hx hb dX9_soon_23 (by decide) ?_
      refine lv_istore (lv' := [(4, .int 0), (3, .int (-1000000005)), (0, .ref (ad o)), (1, .int p1), (2, .int p2)]) hx hb dX9_soon_24 hl (by decide) rfl (fun ls hl => ?_)
      obtain ⟨F5, hF5, hf⟩ := it2_g hf
      have L5 : ∀ (n : Nat) (v3 : Int32) (v4 : Int32) (M : Mem) (H : Heap) (locs : List Loc) (ls : Array Slot), lv_has ls 8 [(0, .ref (ad o)), (1, .int p1), (2, .int p2), (3, .int v3), (4, .int v4)] → va_P D classes (gws K G1 ad M) H → va_S A s.heap H locs → it2 F5 n v3 v4 M = some (r, M') → W p l e rm_X9_soon s m args below meth c H locs 0 0 Q (F0 m 26 ls []) := by
        intro n
        induction n with
        | zero => intro v3 v4 M H locs ls hl hP hS hf; exact nomatch hf
        | succ n ih5 =>
          intro v3 v4 M H locs ls hl hP hS hf
          obtain ⟨rc5, hrc5, hf⟩ := it2_w hf
          rw [← hrc5] at ih5
          rw [hF5] at hf
          refine lv_iload hx hb dX9_soon_26 (lv_at hl 4 rfl) ?_
          refine lv_bipush (v := 6) hx hb dX9_soon_28 (by decide) ?_
          refine r_icmp_ge (tgt := 125) S dX9_soon_30 (by decide) hf (fun hf => ?_) (fun hf => ?_)
          · refine lv_iload_n hx hb dX9_soon_125 rfl (lv_at hl 3 rfl) ?_
            exact hret _ _ _ _ _ _ dX9_soon_126 hP hS rfl hf
          · refine lv_aload_n hx hb dX9_soon_33 rfl (lv_at hl 0 rfl) ?_
            refine gf_X9_10 S hK hP h0 dX9_soon_34 hf (fun x6 hx6 hf => ?_)
            refine lv_iload hx hb dX9_soon_37 (lv_at hl 4 rfl) ?_
            refine r_callV (As := [.int v4]) (rest := []) S hK hE hst hP hS hx6 (by decide) rfl (cw_X9_173 ht ⟨Nat.le_of_ble_eq_true rfl, Nat.le_of_ble_eq_true rfl⟩) rfl hl.1 rfl (Nat.le_of_ble_eq_true rfl) dX9_soon_39 z2 (fun _ _ h => c_X6_layLine hG  hx6 h) hf (fun x7 M H locs hP hS bx7 hf => ?_)
            refine lv_istore (lv' := [(5, .int x7), (0, .ref (ad o)), (1, .int p1), (2, .int p2), (3, .int v3), (4, .int v4)]) hx hb dX9_soon_42 hl (by decide) rfl (fun ls hl => ?_)
            refine lv_aload_n hx hb dX9_soon_44 rfl (lv_at hl 1 rfl) ?_
            refine gf_X9_10 S hK hP h0 dX9_soon_45 hf (fun x8 hx8 hf => ?_)
            refine gf_X9_114 S hK hP hx8 dX9_soon_48 hf (fun x9 hx9 hf => ?_)
            refine lv_iload hx hb dX9_soon_51 (lv_at hl 5 rfl) ?_
            refine lv_aload_n hx hb dX9_soon_53 rfl (lv_at hl 1 rfl) ?_
            refine gf_X9_10 S hK hP h0 dX9_soon_54 hf (fun x10 hx10 hf => ?_)
            refine gf_X9_176 S hK hP hx10 dX9_soon_57 hf (fun x11 hx11 hf => ?_)
            refine lv_iload hx hb dX9_soon_60 (lv_at hl 0 rfl) ?_
            refine lv_iload_n hx hb dX9_soon_62 rfl (lv_at hl 3 rfl) ?_
            refine lv_iload_n hx hb dX9_soon_63 rfl (lv_at hl 2 rfl) ?_
            refine r_callS (As := [.ref (ad x11), .int x7, .int p2, .int p1]) (rest := [.int v4, .ref (ad x9)]) S hK hE hst hP hS (cw_X9_183 ht ⟨Nat.le_of_ble_eq_true rfl, Nat.le_of_ble_eq_true rfl⟩) rfl hl.1 rfl (Nat.le_of_ble_eq_true rfl) dX9_soon_64 z2 (fun _ _ h => c_X9_reach hG  hx11.1 h) hf (fun x12 M H locs hP hS bx12 hf => ?_)
            refine r_callV (As := [.int v4, .int x12]) (rest := []) S hK hE hst hP hS hx9 (by decide) rfl (cw_X9_187 ht ⟨Nat.le_of_ble_eq_true rfl, Nat.le_of_ble_eq_true rfl⟩) rfl hl.1 rfl (Nat.le_of_ble_eq_true rfl) dX9_soon_67 z2 (fun _ _ h => c_X3_at hG  hx9 h) hf (fun x13 M H locs hP hS bx13 hf => ?_)
            refine lv_istore (lv' := [(6, .int x13), (5, .int x7), (0, .ref (ad o)), (1, .int p1), (2, .int p2), (3, .int v3), (4, .int v4)]) hx hb dX9_soon_70 hl (by decide) rfl (fun ls hl => ?_)
            refine lv_aload_n hx hb dX9_soon_72 rfl (lv_at hl 2 rfl) ?_
            refine gf_X9_10 S hK hP h0 dX9_soon_73 hf (fun x14 hx14 hf => ?_)
            refine gf_X9_49 S hK hP hx14 dX9_soon_76 hf (fun x15 hx15 hf => ?_)
            refine lv_iload hx hb dX9_soon_79 (lv_at hl 0 rfl) ?_
            refine r_callV (As := [.int x13]) (rest := []) S hK hE hst hP hS hx15 (by decide) rfl (cw_X9_69 ht ⟨Nat.le_of_ble_eq_true rfl, Nat.le_of_ble_eq_true rfl⟩) rfl hl.1 rfl (Nat.le_of_ble_eq_true rfl) dX9_soon_81 z2 (fun _ _ h => c_X0_has hG  hx15 h) hf (fun x16 M H locs hP hS bx16 hf => ?_)
            refine r_if_ne (tgt := 90) S dX9_soon_84 (by decide) hf (fun hf => ?_) (fun hf => ?_)
            · refine lv_aload_n hx hb dX9_soon_90 rfl (lv_at hl 2 rfl) ?_
              refine gf_X9_10 S hK hP h0 dX9_soon_91 hf (fun x17 hx17 hf => ?_)
              refine gf_X9_49 S hK hP hx17 dX9_soon_94 hf (fun x18 hx18 hf => ?_)
              refine lv_iload hx hb dX9_soon_97 (lv_at hl 0 rfl) ?_
              refine r_callV (As := [.int x13]) (rest := []) S hK hE hst hP hS hx18 (by decide) rfl (cw_X9_123 ht ⟨Nat.le_of_ble_eq_true rfl, Nat.le_of_ble_eq_true rfl⟩) rfl hl.1 rfl (Nat.le_of_ble_eq_true rfl) dX9_soon_99 z2 (fun _ _ h => c_X0_yearOf hG  hx18 h) hf (fun x19 M H locs hP hS bx19 hf => ?_)
              refine lv_istore (lv' := [(7, .int x19), (6, .int x13), (5, .int x7), (0, .ref (ad o)), (1, .int p1), (2, .int p2), (3, .int v3), (4, .int v4)]) hx hb dX9_soon_102 hl (by decide) rfl (fun ls hl => ?_)
              refine lv_iload_n hx hb dX9_soon_104 rfl (lv_at hl 6 rfl) ?_
              refine lv_ldc (v := (-1000000005)) hx hb hown (ht _ k_439) dX9_soon_105 ?_
              refine r_icmp_eq (tgt := 116) S dX9_soon_107 (by decide) hf (fun hf => ?_) (fun hf => ?_)
              · refine lv_iload hx hb dX9_soon_116 (lv_at hl 0 rfl) ?_
                refine lv_istore_n (lv' := [(3, .int x19), (7, .int x19), (6, .int x13), (5, .int x7), (0, .ref (ad o)), (1, .int p1), (2, .int p2), (4, .int v4)]) hx hb dX9_soon_118 rfl hl (by decide) rfl (fun ls hl => ?_)
                refine lv_iinc (v := (v4 + 1)) (lv' := [(4, .int (v4 + 1)), (3, .int x19), (7, .int x19), (6, .int x13), (5, .int x7), (0, .ref (ad o)), (1, .int p1), (2, .int p2)]) hx hb dX9_soon_119 hl (k := 7) rfl rfl (by decide) rfl (fun ls hl => ?_)
                refine lv_goto (tgt := 26) hx hb dX9_soon_122 (by decide) ?_
                exact ih5 x19 (v4 + 1) M H locs ls (lv_sub hl [5, 6, 7, 1, 0] rfl) hP hS hf
              · refine lv_iload hx hb dX9_soon_110 (lv_at hl 0 rfl) ?_
                refine lv_iload_n hx hb dX9_soon_112 rfl (lv_at hl 6 rfl) ?_
                refine r_icmp_ge (tgt := 119) S dX9_soon_113 (by decide) hf (fun hf => ?_) (fun hf => ?_)
                · refine lv_iinc (v := (v4 + 1)) (lv' := [(4, .int (v4 + 1)), (7, .int x19), (6, .int x13), (5, .int x7), (0, .ref (ad o)), (1, .int p1), (2, .int p2), (3, .int v3)]) hx hb dX9_soon_119 hl (k := 7) rfl rfl (by decide) rfl (fun ls hl => ?_)
                  refine lv_goto (tgt := 26) hx hb dX9_soon_122 (by decide) ?_
                  exact ih5 v3 (v4 + 1) M H locs ls (lv_sub hl [4, 5, 6, 7, 0] rfl) hP hS hf
                · refine lv_iload hx hb dX9_soon_116 (lv_at hl 0 rfl) ?_
                  refine lv_istore_n (lv' := [(3, .int x19), (7, .int x19), (6, .int x13), (5, .int x7), (0, .ref (ad o)), (1, .int p1), (2, .int p2), (4, .int v4)]) hx hb dX9_soon_118 rfl hl (by decide) rfl (fun ls hl => ?_)
                  refine lv_iinc (v := (v4 + 1)) (lv' := [(4, .int (v4 + 1)), (3, .int x19), (7, .int x19), (6, .int x13), (5, .int x7), (0, .ref (ad o)), (1, .int p1), (2, .int p2)]) hx hb dX9_soon_119 hl (k := 7) rfl rfl (by decide) rfl (fun ls hl => ?_)
                  refine lv_goto (tgt := 26) hx hb dX9_soon_122 (by decide) ?_
                  exact ih5 x19 (v4 + 1) M H locs ls (lv_sub hl [5, 6, 7, 1, 0] rfl) hP hS hf
            · refine lv_goto (tgt := 119) hx hb dX9_soon_87 (by decide) ?_
              refine lv_iinc (v := (v4 + 1)) (lv' := [(4, .int (v4 + 1)), (6, .int x13), (5, .int x7), (0, .ref (ad o)), (1, .int p1), (2, .int p2), (3, .int v3)]) hx hb dX9_soon_119 hl (k := 6) rfl rfl (by decide) rfl (fun ls hl => ?_)
              refine lv_goto (tgt := 26) hx hb dX9_soon_122 (by decide) ?_
              exact ih5 v3 (v4 + 1) M H locs ls (lv_sub hl [3, 4, 5, 6, 0] rfl) hP hS hf
      exact L5 _ (-1000000005) 0 M H locs ls (lv_sub hl [2, 3, 4, 1, 0] rfl) hP hS hf
    · refine lv_ldc (v := (-1000000001)) hx hb hown (ht _ k_405) dX9_soon_17 ?_
      exact hret _ _ _ _ _ _ dX9_soon_19 hP hS rfl hf
theorem cw_X9_194 {R : Room} {s : State} {args : Array Value} (ht : ∀ w ∈ Tw, w.before args s = true) (hR : rm_X0_withLast.frames + 1 ≤ R.frames ∧ 8 + (4 + 11) + rm_X0_withLast.locals ≤ R.locals) : CallW R s args RX9 RX0 194 yX0_withLast cX0_withLast 4 (some .int) (ws_of yX0_withLast cX0_withLast 4 (some .int)) rm_X0_withLast 0 0 1 := cw_V 1 ht k_798 k_799 k_800 k_65 k_801 (by decide +kernel) rfl rfl hR
def f_X9_even (o : Nat) (M : Mem) : Option (Int32 × Mem) :=
  it2 (fun rc3 (v1 : Int32) (v2 : Int32) M =>
    if v2 < 10 then
      vv (grf G1 o 0) fun x4 =>
      vv (grf G1 x4 0) fun x5 =>
      bd (f_X0_withLast x5 v2 M) fun x6 M =>
      vv (grf G1 o 0) fun x7 =>
      vv (grf G1 x7 0) fun x8 =>
      vv (M x8 2) fun x9 =>
      vv ((10 * x6) - x9) fun x10 =>
      vv (v1 + (x10 * x10)) fun x11 =>
      rc3 x11 (v2 + 1) M
    else
      some (v1, M)
  ) fuel 0 0 M
def rm_X9_even : Room := { frames := 1, cells := 0, slots := 0, locals := 23 }
set_option maxHeartbeats 4000000 in
set_option maxRecDepth 100000 in
theorem c_X9_even {l : Launch} {D : va_G} {K : Ks} {ad : Nat → Nat} {A : Nat → Prop} {tC tA tP : Nat} {kK kV : Nat → Nat} (hG : Gok G1 ad A) {o : Nat} (h0 : gcl G1 o = 9) {M : Mem} {r : Int32} {M' : Mem} (hf : f_X9_even o M = some (r, M')) : Ct l (E1 A tC tA tP kK kV) D K G1 ad A yX9_even (ws_of yX9_even cX9_even 4 (some .int)) rm_X9_even .int [.ref (ad o)] M r M' := by
  have hst : Est A (E1 A tC tA tP kK kV) := est1
  refine Ct.ofW (by decide) (Nat.le_of_ble_eq_true rfl) ?_
  intro p e s m args below meth c Q H locs ls S hK hE hP hS hl hret
  have hx := S.1
  have hb := S.2.1
  have hown := S.2.2.2.1
  have ht := S.2.2.2.2
  have hl : lv_has ls 4 [(0, .ref (ad o))] := hl
  unfold f_X9_even at hf
  refine lv_iconst (v := 0) hx hb dX9_even_0 (by decide) ?_
  refine lv_istore_n (lv' := [(1, .int 0), (0, .ref (ad o))]) hx hb dX9_even_1 rfl hl (by decide) rfl (fun ls hl => ?_)
  refine lv_iconst (v := 0) hx hb dX9_even_2 (by decide) ?_
  refine lv_istore_n (lv' := [(2, .int 0), (1, .int 0), (0, .ref (ad o))]) hx hb dX9_even_3 rfl hl (by decide) rfl (fun ls hl => ?_)
  obtain ⟨F3, hF3, hf⟩ := it2_g hf
  have L3 : ∀ (n : Nat) (v1 : Int32) (v2 : Int32) (M : Mem) (H : Heap) (locs : List Loc) (ls : Array Slot), lv_has ls 4 [(0, .ref (ad o)), (1, .int v1), (2, .int v2)] → va_P D classes (gws K G1 ad M) H → va_S A s.heap H locs → it2 F3 n v1 v2 M = some (r, M') → W p l e rm_X9_even s m args below meth c H locs 0 0 Q (F0 m 4 ls []) := by
    intro n
    induction n with
    | zero => intro v1 v2 M H locs ls hl hP hS hf; exact nomatch hf
    | succ n ih3 =>
      intro v1 v2 M H locs ls hl hP hS hf
      obtain ⟨rc3, hrc3, hf⟩ := it2_w hf
      rw [← hrc3] at ih3
      rw [hF3] at hf
      refine lv_iload_n hx hb dX9_even_4 rfl (lv_at hl 2 rfl) ?_
      refine lv_bipush (v := 10) hx hb dX9_even_5 (by decide) ?_
      refine r_icmp_ge (tgt := 48) S dX9_even_7 (by decide) hf (fun hf => ?_) (fun hf => ?_)
      · refine lv_iload_n hx hb dX9_even_48 rfl (lv_at hl 1 rfl) ?_
        exact hret _ _ _ _ _ _ dX9_even_49 hP hS rfl hf
      · refine lv_bipush (v := 10) hx hb dX9_even_10 (by decide) ?_
        refine lv_aload_n hx hb dX9_even_12 rfl (lv_at hl 0 rfl) ?_
        refine gf_X9_10 S hK hP h0 dX9_even_13 hf (fun x4 hx4 hf => ?_)
        refine gf_X9_49 S hK hP hx4 dX9_even_16 hf (fun x5 hx5 hf => ?_)
        refine lv_iload_n hx hb dX9_even_19 rfl (lv_at hl 2 rfl) ?_
        refine r_callV (As := [.int v2]) (rest := [.int 10]) S hK hE hst hP hS hx5 (by decide) rfl (cw_X9_194 ht ⟨Nat.le_of_ble_eq_true rfl, Nat.le_of_ble_eq_true rfl⟩) rfl hl.1 rfl (Nat.le_of_ble_eq_true rfl) dX9_even_20 z2 (fun _ _ h => c_X0_withLast hG  hx5 h) hf (fun x6 M H locs hP hS bx6 hf => ?_)
        refine lv_imul hx hb dX9_even_23 ?_
        refine lv_aload_n hx hb dX9_even_24 rfl (lv_at hl 0 rfl) ?_
        refine gf_X9_10 S hK hP h0 dX9_even_25 hf (fun x7 hx7 hf => ?_)
        refine gf_X9_49 S hK hP hx7 dX9_even_28 hf (fun x8 hx8 hf => ?_)
        refine gf_X9_75 S hK hP hx8 dX9_even_31 hf (fun x9 hf => ?_)
        refine lv_isub hx hb dX9_even_34 ?_
        refine r_vi hf (fun x10 hf => ?_)
        refine lv_istore_n (lv' := [(3, .int x10), (0, .ref (ad o)), (1, .int v1), (2, .int v2)]) hx hb dX9_even_35 rfl hl (by decide) rfl (fun ls hl => ?_)
        refine lv_iload_n hx hb dX9_even_36 rfl (lv_at hl 2 rfl) ?_
        refine lv_iload_n hx hb dX9_even_37 rfl (lv_at hl 0 rfl) ?_
        refine lv_iload_n hx hb dX9_even_38 rfl (lv_at hl 0 rfl) ?_
        refine lv_imul hx hb dX9_even_39 ?_
        refine lv_iadd hx hb dX9_even_40 ?_
        refine r_vi hf (fun x11 hf => ?_)
        refine lv_istore_n (lv' := [(1, .int x11), (3, .int x10), (0, .ref (ad o)), (2, .int v2)]) hx hb dX9_even_41 rfl hl (by decide) rfl (fun ls hl => ?_)
        refine lv_iinc (v := (v2 + 1)) (lv' := [(2, .int (v2 + 1)), (1, .int x11), (3, .int x10), (0, .ref (ad o))]) hx hb dX9_even_42 hl (k := 3) rfl rfl (by decide) rfl (fun ls hl => ?_)
        refine lv_goto (tgt := 4) hx hb dX9_even_45 (by decide) ?_
        exact ih3 x11 (v2 + 1) M H locs ls (lv_sub hl [3, 1, 0] rfl) hP hS hf
  exact L3 _ 0 0 M H locs ls (lv_sub hl [2, 1, 0] rfl) hP hS hf
def f_X9_digit (o : Nat) (p1 : Int32) (M : Mem) : Option (Int32 × Mem) :=
  bd (f_X9_within p1 0 9 M) fun x1 M =>
  if x1 = 0 then
    some ((-1000000001), M)
  else
    vv (grf G1 o 0) fun x2 =>
    vv (grf G1 x2 0) fun x3 =>
    bd (f_X0_withLast x3 p1 M) fun x4 M =>
    some (x4, M)
def rm_X9_digit : Room := { frames := 1, cells := 0, slots := 0, locals := 23 }
set_option maxHeartbeats 4000000 in
set_option maxRecDepth 100000 in
theorem c_X9_digit {l : Launch} {D : va_G} {K : Ks} {ad : Nat → Nat} {A : Nat → Prop} {tC tA tP : Nat} {kK kV : Nat → Nat} (hG : Gok G1 ad A) {o : Nat} {p1 : Int32} (h0 : gcl G1 o = 9) {M : Mem} {r : Int32} {M' : Mem} (hf : f_X9_digit o p1 M = some (r, M')) : Ct l (E1 A tC tA tP kK kV) D K G1 ad A yX9_digit (ws_of yX9_digit cX9_digit 2 (some .int)) rm_X9_digit .int [.ref (ad o), .int p1] M r M' := by
  have hst : Est A (E1 A tC tA tP kK kV) := est1
  refine Ct.ofW (by decide) (Nat.le_of_ble_eq_true rfl) ?_
  intro p e s m args below meth c Q H locs ls S hK hE hP hS hl hret
  have hx := S.1
  have hb := S.2.1
  have hown := S.2.2.2.1
  have ht := S.2.2.2.2
  have hl : lv_has ls 2 [(0, .ref (ad o)), (1, .int p1)] := hl
  unfold f_X9_digit at hf
  refine lv_iload_n hx hb dX9_digit_0 rfl (lv_at hl 1 rfl) ?_
  refine lv_iconst (v := 0) hx hb dX9_digit_1 (by decide) ?_
  refine lv_bipush (v := 9) hx hb dX9_digit_2 (by decide) ?_
  refine r_callS (As := [.int p1, .int 0, .int 9]) (rest := []) S hK hE hst hP hS (cw_X9_44 ht ⟨Nat.le_of_ble_eq_true rfl, Nat.le_of_ble_eq_true rfl⟩) rfl hl.1 rfl (Nat.le_of_ble_eq_true rfl) dX9_digit_4 z2 (fun _ _ h => c_X9_within hG  h) hf (fun x1 M H locs hP hS bx1 hf => ?_)
  refine r_if_ne (tgt := 13) S dX9_digit_7 (by decide) hf (fun hf => ?_) (fun hf => ?_)
  · refine lv_aload_n hx hb dX9_digit_13 rfl (lv_at hl 0 rfl) ?_
    refine gf_X9_10 S hK hP h0 dX9_digit_14 hf (fun x2 hx2 hf => ?_)
    refine gf_X9_49 S hK hP hx2 dX9_digit_17 hf (fun x3 hx3 hf => ?_)
    refine lv_iload_n hx hb dX9_digit_20 rfl (lv_at hl 1 rfl) ?_
    refine r_callV (As := [.int p1]) (rest := []) S hK hE hst hP hS hx3 (by decide) rfl (cw_X9_194 ht ⟨Nat.le_of_ble_eq_true rfl, Nat.le_of_ble_eq_true rfl⟩) rfl hl.1 rfl (Nat.le_of_ble_eq_true rfl) dX9_digit_21 z2 (fun _ _ h => c_X0_withLast hG  hx3 h) hf (fun x4 M H locs hP hS bx4 hf => ?_)
    exact hret _ _ _ _ _ _ dX9_digit_24 hP hS rfl hf
  · refine lv_ldc (v := (-1000000001)) hx hb hown (ht _ k_405) dX9_digit_10 ?_
    exact hret _ _ _ _ _ _ dX9_digit_12 hP hS rfl hf
theorem cw_X9_197 {R : Room} {s : State} {args : Array Value} (ht : ∀ w ∈ Tw, w.before args s = true) (hR : rm_X6_isOdd.frames + 1 ≤ R.frames ∧ 8 + (4 + 11) + rm_X6_isOdd.locals ≤ R.locals) : CallW R s args RX9 RX6 197 yX6_isOdd cX6_isOdd 4 (some .boolean) (ws_of yX6_isOdd cX6_isOdd 4 (some .boolean)) rm_X6_isOdd 0 0 1 := cw_V 1 ht k_810 k_811 k_812 k_64 k_813 (by decide +kernel) rfl rfl hR
def f_X9_odd (o : Nat) (M : Mem) : Option (Int32 × Mem) :=
  it2 (fun rc3 (v1 : Int32) (v2 : Int32) M =>
    if v2 < 10 then
      vv (grf G1 o 0) fun x4 =>
      bd (f_X6_isOdd x4 v2 M) fun x5 M =>
      if x5 = 0 then
        rc3 v1 (v2 + 1) M
      else
        vv (v1 ||| ((1 : Int32) <<< (v2 &&& 31))) fun x6 =>
        rc3 x6 (v2 + 1) M
    else
      some (v1, M)
  ) fuel 0 0 M
def rm_X9_odd : Room := { frames := 3, cells := 0, slots := 0, locals := 72 }
set_option maxHeartbeats 4000000 in
set_option maxRecDepth 100000 in
theorem c_X9_odd {l : Launch} {D : va_G} {K : Ks} {ad : Nat → Nat} {A : Nat → Prop} {tC tA tP : Nat} {kK kV : Nat → Nat} (hG : Gok G1 ad A) {o : Nat} (h0 : gcl G1 o = 9) {M : Mem} {r : Int32} {M' : Mem} (hf : f_X9_odd o M = some (r, M')) : Ct l (E1 A tC tA tP kK kV) D K G1 ad A yX9_odd (ws_of yX9_odd cX9_odd 3 (some .int)) rm_X9_odd .int [.ref (ad o)] M r M' := by
  have hst : Est A (E1 A tC tA tP kK kV) := est1
  refine Ct.ofW (by decide) (Nat.le_of_ble_eq_true rfl) ?_
  intro p e s m args below meth c Q H locs ls S hK hE hP hS hl hret
  have hx := S.1
  have hb := S.2.1
  have hown := S.2.2.2.1
  have ht := S.2.2.2.2
  have hl : lv_has ls 3 [(0, .ref (ad o))] := hl
  unfold f_X9_odd at hf
  refine lv_iconst (v := 0) hx hb dX9_odd_0 (by decide) ?_
  refine lv_istore_n (lv' := [(1, .int 0), (0, .ref (ad o))]) hx hb dX9_odd_1 rfl hl (by decide) rfl (fun ls hl => ?_)
  refine lv_iconst (v := 0) hx hb dX9_odd_2 (by decide) ?_
  refine lv_istore_n (lv' := [(2, .int 0), (1, .int 0), (0, .ref (ad o))]) hx hb dX9_odd_3 rfl hl (by decide) rfl (fun ls hl => ?_)
  obtain ⟨F3, hF3, hf⟩ := it2_g hf
  have L3 : ∀ (n : Nat) (v1 : Int32) (v2 : Int32) (M : Mem) (H : Heap) (locs : List Loc) (ls : Array Slot), lv_has ls 3 [(0, .ref (ad o)), (1, .int v1), (2, .int v2)] → va_P D classes (gws K G1 ad M) H → va_S A s.heap H locs → it2 F3 n v1 v2 M = some (r, M') → W p l e rm_X9_odd s m args below meth c H locs 0 0 Q (F0 m 4 ls []) := by
    intro n
    induction n with
    | zero => intro v1 v2 M H locs ls hl hP hS hf; exact nomatch hf
    | succ n ih3 =>
      intro v1 v2 M H locs ls hl hP hS hf
      obtain ⟨rc3, hrc3, hf⟩ := it2_w hf
      rw [← hrc3] at ih3
      rw [hF3] at hf
      refine lv_iload_n hx hb dX9_odd_4 rfl (lv_at hl 2 rfl) ?_
      refine lv_bipush (v := 10) hx hb dX9_odd_5 (by decide) ?_
      refine r_icmp_ge (tgt := 33) S dX9_odd_7 (by decide) hf (fun hf => ?_) (fun hf => ?_)
      · refine lv_iload_n hx hb dX9_odd_33 rfl (lv_at hl 1 rfl) ?_
        exact hret _ _ _ _ _ _ dX9_odd_34 hP hS rfl hf
      · refine lv_aload_n hx hb dX9_odd_10 rfl (lv_at hl 0 rfl) ?_
        refine gf_X9_10 S hK hP h0 dX9_odd_11 hf (fun x4 hx4 hf => ?_)
        refine lv_iload_n hx hb dX9_odd_14 rfl (lv_at hl 2 rfl) ?_
        refine r_callV (As := [.int v2]) (rest := []) S hK hE hst hP hS hx4 (by decide) rfl (cw_X9_197 ht ⟨Nat.le_of_ble_eq_true rfl, Nat.le_of_ble_eq_true rfl⟩) rfl hl.1 rfl (Nat.le_of_ble_eq_true rfl) dX9_odd_15 z2 (fun _ _ h => c_X6_isOdd hG  hx4 h) hf (fun x5 M H locs hP hS bx5 hf => ?_)
        refine r_if_eq (tgt := 27) S dX9_odd_18 (by decide) hf (fun hf => ?_) (fun hf => ?_)
        · refine lv_iinc (v := (v2 + 1)) (lv' := [(2, .int (v2 + 1)), (0, .ref (ad o)), (1, .int v1)]) hx hb dX9_odd_27 hl (k := 2) rfl rfl (by decide) rfl (fun ls hl => ?_)
          refine lv_goto (tgt := 4) hx hb dX9_odd_30 (by decide) ?_
          exact ih3 v1 (v2 + 1) M H locs ls (lv_sub hl [1, 2, 0] rfl) hP hS hf
        · refine lv_iload_n hx hb dX9_odd_21 rfl (lv_at hl 1 rfl) ?_
          refine lv_iconst (v := 1) hx hb dX9_odd_22 (by decide) ?_
          refine lv_iload_n hx hb dX9_odd_23 rfl (lv_at hl 2 rfl) ?_
          refine lv_ishl hx hb dX9_odd_24 ?_
          refine lv_ior hx hb dX9_odd_25 ?_
          refine r_vi hf (fun x6 hf => ?_)
          refine lv_istore_n (lv' := [(1, .int x6), (0, .ref (ad o)), (2, .int v2)]) hx hb dX9_odd_26 rfl hl (by decide) rfl (fun ls hl => ?_)
          refine lv_iinc (v := (v2 + 1)) (lv' := [(2, .int (v2 + 1)), (1, .int x6), (0, .ref (ad o))]) hx hb dX9_odd_27 hl (k := 2) rfl rfl (by decide) rfl (fun ls hl => ?_)
          refine lv_goto (tgt := 4) hx hb dX9_odd_30 (by decide) ?_
          exact ih3 x6 (v2 + 1) M H locs ls (lv_sub hl [2, 1, 0] rfl) hP hS hf
  exact L3 _ 0 0 M H locs ls (lv_sub hl [2, 1, 0] rfl) hP hS hf
section
variable {p : Program} {l : Launch} {e : Env} {R : Room} {s : State} {m : MethodId} {args : Array Value} {below : List Frame} {meth : Method} {c : Code} {H : Heap} {locs : List Loc} {cells slots : Nat} {Q : State → Prop} {cc : ByteArray} {pc : Nat} {ls : Array Slot} {rest : List Value} {nL : Nat} {D : va_G} {K : Ks} {ad : Nat → Nat} {A : Nat → Prop} {M : Mem} {β : Type} {z : β}
theorem gf_X9_200 (S : CallFix p m c cc nL s args Tw RX9) (hK : va_K D classes (gty K) s) (hP : va_P D classes (gws K G1 ad M) H) {a : Nat} {kk : Int32 → Option β} (ha : gcl G1 a = 6) (hdg : decode cc pc = .ok (.getfield 200, 3)) (hf : vv (M a 6) kk = some z) (w : ∀ x, kk x = some z → W p l e R s m args below meth c H locs cells slots Q (F0 m (pc + 3) ls (.int x :: rest))) : W p l e R s m args below meth c H locs cells slots Q (F0 m pc ls (.ref (ad a) :: rest)) := r_geti S hK hP (T := TX6) inX6 rfl (by decide) (by decide) ha (sf_X6_6 ha) k_249 hdg hf w
end
section
variable {p : Program} {l : Launch} {e : Env} {R : Room} {s : State} {m : MethodId} {args : Array Value} {below : List Frame} {meth : Method} {c : Code} {H : Heap} {locs : List Loc} {cells slots : Nat} {Q : State → Prop} {cc : ByteArray} {pc : Nat} {ls : Array Slot} {rest : List Value} {nL : Nat} {D : va_G} {K : Ks} {ad : Nat → Nat} {A : Nat → Prop} {M : Mem} {β : Type} {z : β}
theorem gf_X9_203 (S : CallFix p m c cc nL s args Tw RX9) (hK : va_K D classes (gty K) s) (hP : va_P D classes (gws K G1 ad M) H) {a : Nat} {kk : Nat → Option β} (ha : gcl G1 a = 6) (hdg : decode cc pc = .ok (.getfield 203, 3)) (hf : vv (grf G1 a 5) kk = some z) (w : ∀ b, gcl G1 b = 20 ∧ gsz G1 b = 6 → kk b = some z → W p l e R s m args below meth c H locs cells slots Q (F0 m (pc + 3) ls (.ref (ad b) :: rest))) : W p l e R s m args below meth c H locs cells slots Q (F0 m pc ls (.ref (ad a) :: rest)) := r_getr S hK hP (T := TX6) inX6 rfl (by decide) (by decide) ha (sf_X6_5 ha).1 k_247 hdg hf (fun b e => w b (by rw [e]; exact (sf_X6_5 ha).2))
end
section
variable {p : Program} {l : Launch} {e : Env} {R : Room} {s : State} {m : MethodId} {args : Array Value} {below : List Frame} {meth : Method} {c : Code} {H : Heap} {locs : List Loc} {cells slots : Nat} {Q : State → Prop} {cc : ByteArray} {pc : Nat} {ls : Array Slot} {rest : List Value} {nL : Nat} {D : va_G} {K : Ks} {ad : Nat → Nat} {A : Nat → Prop} {M : Mem} {β : Type} {z : β}
theorem pf_X9_200 (S : CallFix p m c cc nL s args Tw RX9) (hK : va_K D classes (gty K) s) (hG : Gok G1 ad A) (hP : va_P D classes (gws K G1 ad M) H) (hS : va_S A s.heap H locs) {a : Nat} {v : Int32} {kk : Mem → Option β} (ha : gcl G1 a = 6) (hdg : decode cc pc = .ok (.putfield 200, 3)) (hf : mm (up M a 6 v) kk = some z) (w : ∀ M H locs, va_P D classes (gws K G1 ad M) H → va_S A s.heap H locs → kk M = some z → W p l e R s m args below meth c H locs cells slots Q (F0 m (pc + 3) ls rest)) : W p l e R s m args below meth c H locs cells slots Q (F0 m pc ls (.int v :: .ref (ad a) :: rest)) := r_putt S hK hG hP hS (k := 6) (T := TX6) inX6 rfl (by decide) tyX6 tyX6_ok nmX6 (by decide) rfl rfl rfl ha (sf_X6_6 ha) k_249 hdg hf w
end
def f_X9_choose (o : Nat) (p1 : Int32) (M : Mem) : Option (Int32 × Mem) :=
  vv (grf G1 o 0) fun x1 =>
  vv (grf G1 x1 0) fun x2 =>
  bd (f_X0_has x2 p1 M) fun x3 M =>
  if x3 = 0 then
    some ((-1000000001), M)
  else
    it1 (fun rc5 (v4 : Int32) M =>
      vv (grf G1 o 0) fun x6 =>
      vv (M x6 6) fun x7 =>
      if v4 < x7 then
        vv (grf G1 o 0) fun x18 =>
        vv (grf G1 x18 5) fun x19 =>
        ld M x19 v4 6 fun x20 =>
        if x20 = p1 then
          some ((-1000000002), M)
        else
          rc5 (v4 + 1) M
      else
        vv (grf G1 o 0) fun x8 =>
        vv (M x8 6) fun x9 =>
        if x9 < 6 then
          vv (grf G1 o 0) fun x10 =>
          vv (grf G1 x10 5) fun x11 =>
          vv (grf G1 o 0) fun x12 =>
          vv (M x12 6) fun x13 =>
          st M x11 x13 6 p1 fun M =>
          vv (grf G1 o 0) fun x14 =>
          vv (M x14 6) fun x15 =>
          mm (up M x14 6 (x15 + 1)) fun M =>
          vv (grf G1 o 0) fun x16 =>
          vv (M x16 6) fun x17 =>
          some (x17, M)
        else
          some ((-1000000003), M)
    ) fuel 0 M
def rm_X9_choose : Room := { frames := 1, cells := 0, slots := 0, locals := 21 }
set_option maxHeartbeats 4000000 in
set_option maxRecDepth 100000 in
theorem c_X9_choose {l : Launch} {D : va_G} {K : Ks} {ad : Nat → Nat} {A : Nat → Prop} {tC tA tP : Nat} {kK kV : Nat → Nat} (hG : Gok G1 ad A) {o : Nat} {p1 : Int32} (h0 : gcl G1 o = 9) {M : Mem} {r : Int32} {M' : Mem} (hf : f_X9_choose o p1 M = some (r, M')) : Ct l (E1 A tC tA tP kK kV) D K G1 ad A yX9_choose (ws_of yX9_choose cX9_choose 3 (some .int)) rm_X9_choose .int [.ref (ad o), .int p1] M r M' := by
  have hst : Est A (E1 A tC tA tP kK kV) := est1
  refine Ct.ofW (by decide) (Nat.le_of_ble_eq_true rfl) ?_
  intro p e s m args below meth c Q H locs ls S hK hE hP hS hl hret
  have hx := S.1
  have hb := S.2.1
  have hown := S.2.2.2.1
  have ht := S.2.2.2.2
  have hl : lv_has ls 3 [(0, .ref (ad o)), (1, .int p1)] := hl
  unfold f_X9_choose at hf
  refine lv_aload_n hx hb dX9_choose_0 rfl (lv_at hl 0 rfl) ?_
  refine gf_X9_10 S hK hP h0 dX9_choose_1 hf (fun x1 hx1 hf => ?_)
  refine gf_X9_49 S hK hP hx1 dX9_choose_4 hf (fun x2 hx2 hf => ?_)
  refine lv_iload_n hx hb dX9_choose_7 rfl (lv_at hl 1 rfl) ?_
  refine r_callV (As := [.int p1]) (rest := []) S hK hE hst hP hS hx2 (by decide) rfl (cw_X9_69 ht ⟨Nat.le_of_ble_eq_true rfl, Nat.le_of_ble_eq_true rfl⟩) rfl hl.1 rfl (Nat.le_of_ble_eq_true rfl) dX9_choose_8 z2 (fun _ _ h => c_X0_has hG  hx2 h) hf (fun x3 M H locs hP hS bx3 hf => ?_)
  refine r_if_ne (tgt := 17) S dX9_choose_11 (by decide) hf (fun hf => ?_) (fun hf => ?_)
  · refine lv_iconst (v := 0) hx hb dX9_choose_17 (by decide) ?_
    refine lv_istore_n (lv' := [(2, .int 0), (0, .ref (ad o)), (1, .int p1)]) hx hb dX9_choose_18 rfl hl (by decide) rfl (fun ls hl => ?_)
    obtain ⟨F5, hF5, hf⟩ := it1_g hf
    have L5 : ∀ (n : Nat) (v4 : Int32) (M : Mem) (H : Heap) (locs : List Loc) (ls : Array Slot), lv_has ls 3 [(0, .ref (ad o)), (1, .int p1), (2, .int v4)] → va_P D classes (gws K G1 ad M) H → va_S A s.heap H locs → it1 F5 n v4 M = some (r, M') → W p l e rm_X9_choose s m args below meth c H locs 0 0 Q (F0 m 19 ls []) := by
      intro n
      induction n with
      | zero => intro v4 M H locs ls hl hP hS hf; exact nomatch hf
      | succ n ih5 =>
        intro v4 M H locs ls hl hP hS hf
        obtain ⟨rc5, hrc5, hf⟩ := it1_w hf
        rw [← hrc5] at ih5
        rw [hF5] at hf
        refine lv_iload_n hx hb dX9_choose_19 rfl (lv_at hl 2 rfl) ?_
        refine lv_aload_n hx hb dX9_choose_20 rfl (lv_at hl 0 rfl) ?_
        refine gf_X9_10 S hK hP h0 dX9_choose_21 hf (fun x6 hx6 hf => ?_)
        refine gf_X9_200 S hK hP hx6 dX9_choose_24 hf (fun x7 hf => ?_)
        refine r_icmp_ge (tgt := 52) S dX9_choose_27 (by decide) hf (fun hf => ?_) (fun hf => ?_)
        · refine lv_aload_n hx hb dX9_choose_52 rfl (lv_at hl 0 rfl) ?_
          refine gf_X9_10 S hK hP h0 dX9_choose_53 hf (fun x8 hx8 hf => ?_)
          refine gf_X9_200 S hK hP hx8 dX9_choose_56 hf (fun x9 hf => ?_)
          refine lv_bipush (v := 6) hx hb dX9_choose_59 (by decide) ?_
          refine r_icmp_lt (tgt := 67) S dX9_choose_61 (by decide) hf (fun hf => ?_) (fun hf => ?_)
          · refine lv_aload_n hx hb dX9_choose_67 rfl (lv_at hl 0 rfl) ?_
            refine gf_X9_10 S hK hP h0 dX9_choose_68 hf (fun x10 hx10 hf => ?_)
            refine gf_X9_203 S hK hP hx10 dX9_choose_71 hf (fun x11 hx11 hf => ?_)
            refine lv_aload_n hx hb dX9_choose_74 rfl (lv_at hl 0 rfl) ?_
            refine gf_X9_10 S hK hP h0 dX9_choose_75 hf (fun x12 hx12 hf => ?_)
            refine gf_X9_200 S hK hP hx12 dX9_choose_78 hf (fun x13 hf => ?_)
            refine lv_iload_n hx hb dX9_choose_81 rfl (lv_at hl 1 rfl) ?_
            refine r_iast S hK hG hP hS hx11 dX9_choose_82 hf (fun M H locs hP hS hf => ?_)
            refine lv_aload_n hx hb dX9_choose_83 rfl (lv_at hl 0 rfl) ?_
            refine gf_X9_10 S hK hP h0 dX9_choose_84 hf (fun x14 hx14 hf => ?_)
            refine lv_dup hx hb dX9_choose_87 rfl ?_
            refine gf_X9_200 S hK hP hx14 dX9_choose_88 hf (fun x15 hf => ?_)
            refine lv_iconst (v := 1) hx hb dX9_choose_91 (by decide) ?_
            refine lv_iadd hx hb dX9_choose_92 ?_
            refine pf_X9_200 S hK hG hP hS hx14 dX9_choose_93 hf (fun M H locs hP hS hf => ?_)
            refine lv_aload_n hx hb dX9_choose_96 rfl (lv_at hl 0 rfl) ?_
            refine gf_X9_10 S hK hP h0 dX9_choose_97 hf (fun x16 hx16 hf => ?_)
            refine gf_X9_200 S hK hP hx16 dX9_choose_100 hf (fun x17 hf => ?_)
            exact hret _ _ _ _ _ _ dX9_choose_103 hP hS rfl hf
          · refine lv_ldc (v := (-1000000003)) hx hb hown (ht _ k_430) dX9_choose_64 ?_
            exact hret _ _ _ _ _ _ dX9_choose_66 hP hS rfl hf
        · refine lv_aload_n hx hb dX9_choose_30 rfl (lv_at hl 0 rfl) ?_
          refine gf_X9_10 S hK hP h0 dX9_choose_31 hf (fun x18 hx18 hf => ?_)
          refine gf_X9_203 S hK hP hx18 dX9_choose_34 hf (fun x19 hx19 hf => ?_)
          refine lv_iload_n hx hb dX9_choose_37 rfl (lv_at hl 2 rfl) ?_
          refine r_iald S hK hP hx19 dX9_choose_38 hf (fun x20 hf => ?_)
          refine lv_iload_n hx hb dX9_choose_39 rfl (lv_at hl 1 rfl) ?_
          refine r_icmp_ne (tgt := 46) S dX9_choose_40 (by decide) hf (fun hf => ?_) (fun hf => ?_)
          · refine lv_iinc (v := (v4 + 1)) (lv' := [(2, .int (v4 + 1)), (0, .ref (ad o)), (1, .int p1)]) hx hb dX9_choose_46 hl (k := 2) rfl rfl (by decide) rfl (fun ls hl => ?_)
            refine lv_goto (tgt := 19) hx hb dX9_choose_49 (by decide) ?_
            exact ih5 (v4 + 1) M H locs ls (lv_sub hl [1, 2, 0] rfl) hP hS hf
          · refine lv_ldc (v := (-1000000002)) hx hb hown (ht _ k_743) dX9_choose_43 ?_
            exact hret _ _ _ _ _ _ dX9_choose_45 hP hS rfl hf
    exact L5 _ 0 M H locs ls (lv_sub hl [1, 2, 0] rfl) hP hS hf
  · refine lv_ldc (v := (-1000000001)) hx hb hown (ht _ k_405) dX9_choose_14 ?_
    exact hret _ _ _ _ _ _ dX9_choose_16 hP hS rfl hf
theorem cw_X9_206 {R : Room} {s : State} {args : Array Value} (ht : ∀ w ∈ Tw, w.before args s = true) (hR : rm_X6_cheapestKind.frames + 1 ≤ R.frames ∧ 8 + (5 + 11) + rm_X6_cheapestKind.locals ≤ R.locals) : CallW R s args RX9 RX6 206 yX6_cheapestKind cX6_cheapestKind 5 (some .int) (ws_of yX6_cheapestKind cX6_cheapestKind 5 (some .int)) rm_X6_cheapestKind 0 0 1 := cw_V 1 ht k_823 k_824 k_825 k_64 k_826 (by decide +kernel) rfl rfl hR
theorem cw_X9_209 {R : Room} {s : State} {args : Array Value} (ht : ∀ w ∈ Tw, w.before args s = true) (hR : rm_X9_isUnkind.frames + 1 ≤ R.frames ∧ 8 + (1 + 11) + rm_X9_isUnkind.locals ≤ R.locals) : CallB R s args RX9 209 yX9_isUnkind cX9_isUnkind 1 (some .boolean) (ws_of yX9_isUnkind cX9_isUnkind 1 (some .boolean)) rm_X9_isUnkind 0 0 1 ∧ (Cond.static yX9_isUnkind).before args s = true := cw_S 1 ht k_829 k_830 k_63 k_831 (by decide +kernel) rfl rfl hR
def f_X9_story (o : Nat) (p1 : Int32) (p2 : Int32) (M : Mem) : Option (Int32 × Mem) :=
  bd (f_X9_within p1 0 6 M) fun x1 M =>
  if x1 = 0 then
    some ((-1000000001), M)
  else
    vv (grf G1 o 0) fun x2 =>
    vv (M x2 6) fun x3 =>
    bd (f_X9_within p2 0 (1 + x3) M) fun x4 M =>
    if x4 = 0 then
      some ((-1000000001), M)
    else
      it3 (fun rc8 (v5 : Int32) (v6 : Int32) (v7 : Int32) M =>
        vv (grf G1 o 0) fun x9 =>
        vv (M x9 6) fun x10 =>
        if v7 < x10 then
          vv (grf G1 o 0) fun x16 =>
          vv (grf G1 o 0) fun x17 =>
          vv (grf G1 x17 5) fun x18 =>
          ld M x18 v7 6 fun x19 =>
          bd (f_X6_cheapestKind x16 x19 M) fun x20 M =>
          vv (grf G1 o 0) fun x21 =>
          vv (grf G1 x21 0) fun x22 =>
          vv (grf G1 x22 6) fun x23 =>
          vv (grf G1 o 0) fun x24 =>
          vv (grf G1 x24 5) fun x25 =>
          ld M x25 v7 6 fun x26 =>
          ld M x23 x26 40 fun x27 =>
          bd (f_X9_price x20 x27 M) fun x28 M =>
          vv (v5 + x28) fun x29 =>
          bd (f_X9_isUnkind x20 M) fun x30 M =>
          if x30 = 0 then
            rc8 x29 v6 (v7 + 1) M
          else
            rc8 x29 (v6 + 1) (v7 + 1) M
        else
          if p1 < v6 then
            some ((-1000000005), M)
          else
            if p2 = 0 then
              some (v5, M)
            else
              if p2 = 1 then
                some (v6, M)
              else
                vv (grf G1 o 0) fun x11 =>
                vv (grf G1 o 0) fun x12 =>
                vv (grf G1 x12 5) fun x13 =>
                ld M x13 (p2 - 2) 6 fun x14 =>
                bd (f_X6_cheapestKind x11 x14 M) fun x15 M =>
                some (x15, M)
      ) fuel 0 0 0 M
def rm_X9_story : Room := { frames := 6, cells := 0, slots := 0, locals := 146 }
set_option maxHeartbeats 4000000 in
set_option maxRecDepth 100000 in
theorem c_X9_story {l : Launch} {D : va_G} {K : Ks} {ad : Nat → Nat} {A : Nat → Prop} {tC tA tP : Nat} {kK kV : Nat → Nat} (hG : Gok G1 ad A) {o : Nat} {p1 : Int32} {p2 : Int32} (h0 : gcl G1 o = 9) {M : Mem} {r : Int32} {M' : Mem} (hf : f_X9_story o p1 p2 M = some (r, M')) : Ct l (E1 A tC tA tP kK kV) D K G1 ad A yX9_story (ws_of yX9_story cX9_story 7 (some .int)) rm_X9_story .int [.ref (ad o), .int p1, .int p2] M r M' := by
  have hst : Est A (E1 A tC tA tP kK kV) := est1
  refine Ct.ofW (by decide) (Nat.le_of_ble_eq_true rfl) ?_
  intro p e s m args below meth c Q H locs ls S hK hE hP hS hl hret
  have hx := S.1
  have hb := S.2.1
  have hown := S.2.2.2.1
  have ht := S.2.2.2.2
  have hl : lv_has ls 7 [(0, .ref (ad o)), (1, .int p1), (2, .int p2)] := hl
  unfold f_X9_story at hf
  refine lv_iload_n hx hb dX9_story_0 rfl (lv_at hl 1 rfl) ?_
  refine lv_iconst (v := 0) hx hb dX9_story_1 (by decide) ?_
  refine lv_bipush (v := 6) hx hb dX9_story_2 (by decide) ?_
  refine r_callS (As := [.int p1, .int 0, .int 6]) (rest := []) S hK hE hst hP hS (cw_X9_44 ht ⟨Nat.le_of_ble_eq_true rfl, Nat.le_of_ble_eq_true rfl⟩) rfl hl.1 rfl (Nat.le_of_ble_eq_true rfl) dX9_story_4 z2 (fun _ _ h => c_X9_within hG  h) hf (fun x1 M H locs hP hS bx1 hf => ?_)
  refine r_if_eq (tgt := 27) S dX9_story_7 (by decide) hf (fun hf => ?_) (fun hf => ?_)
  · refine lv_ldc (v := (-1000000001)) hx hb hown (ht _ k_405) dX9_story_27 ?_
    exact hret _ _ _ _ _ _ dX9_story_29 hP hS rfl hf
  · refine lv_iload_n hx hb dX9_story_10 rfl (lv_at hl 2 rfl) ?_
    refine lv_iconst (v := 0) hx hb dX9_story_11 (by decide) ?_
    refine lv_iconst (v := 1) hx hb dX9_story_12 (by decide) ?_
    refine lv_aload_n hx hb dX9_story_13 rfl (lv_at hl 0 rfl) ?_
    refine gf_X9_10 S hK hP h0 dX9_story_14 hf (fun x2 hx2 hf => ?_)
    refine gf_X9_200 S hK hP hx2 dX9_story_17 hf (fun x3 hf => ?_)
    refine lv_iadd hx hb dX9_story_20 ?_
    refine r_callS (As := [.int p2, .int 0, .int (1 + x3)]) (rest := []) S hK hE hst hP hS (cw_X9_44 ht ⟨Nat.le_of_ble_eq_true rfl, Nat.le_of_ble_eq_true rfl⟩) rfl hl.1 rfl (Nat.le_of_ble_eq_true rfl) dX9_story_21 z2 (fun _ _ h => c_X9_within hG  h) hf (fun x4 M H locs hP hS bx4 hf => ?_)
    refine r_if_ne (tgt := 30) S dX9_story_24 (by decide) hf (fun hf => ?_) (fun hf => ?_)
    · refine lv_iconst (v := 0) hx hb dX9_story_30 (by decide) ?_
      refine lv_istore_n (lv' := [(3, .int 0), (0, .ref (ad o)), (1, .int p1), (2, .int p2)]) hx hb dX9_story_31 rfl hl (by decide) rfl (fun ls hl => ?_)
      refine lv_iconst (v := 0) hx hb dX9_story_32 (by decide) ?_
      refine lv_istore (lv' := [(4, .int 0), (3, .int 0), (0, .ref (ad o)), (1, .int p1), (2, .int p2)]) hx hb dX9_story_33 hl (by decide) rfl (fun ls hl => ?_)
      refine lv_iconst (v := 0) hx hb dX9_story_35 (by decide) ?_
      refine lv_istore (lv' := [(5, .int 0), (4, .int 0), (3, .int 0), (0, .ref (ad o)), (1, .int p1), (2, .int p2)]) hx hb dX9_story_36 hl (by decide) rfl (fun ls hl => ?_)
      obtain ⟨F8, hF8, hf⟩ := it3_g hf
      have L8 : ∀ (n : Nat) (v5 : Int32) (v6 : Int32) (v7 : Int32) (M : Mem) (H : Heap) (locs : List Loc) (ls : Array Slot), lv_has ls 7 [(0, .ref (ad o)), (1, .int p1), (2, .int p2), (3, .int v5), (4, .int v6), (5, .int v7)] → va_P D classes (gws K G1 ad M) H → va_S A s.heap H locs → it3 F8 n v5 v6 v7 M = some (r, M') → W p l e rm_X9_story s m args below meth c H locs 0 0 Q (F0 m 38 ls []) := by
        intro n
        induction n with
        | zero => intro v5 v6 v7 M H locs ls hl hP hS hf; exact nomatch hf
        | succ n ih8 =>
          intro v5 v6 v7 M H locs ls hl hP hS hf
          obtain ⟨rc8, hrc8, hf⟩ := it3_w hf
          rw [← hrc8] at ih8
          rw [hF8] at hf
          refine lv_iload hx hb dX9_story_38 (lv_at hl 5 rfl) ?_
          refine lv_aload_n hx hb dX9_story_40 rfl (lv_at hl 0 rfl) ?_
          refine gf_X9_10 S hK hP h0 dX9_story_41 hf (fun x9 hx9 hf => ?_)
          refine gf_X9_200 S hK hP hx9 dX9_story_44 hf (fun x10 hf => ?_)
          refine r_icmp_ge (tgt := 115) S dX9_story_47 (by decide) hf (fun hf => ?_) (fun hf => ?_)
          · refine lv_iload hx hb dX9_story_115 (lv_at hl 4 rfl) ?_
            refine lv_iload_n hx hb dX9_story_117 rfl (lv_at hl 1 rfl) ?_
            refine r_icmp_le (tgt := 124) S dX9_story_118 (by decide) hf (fun hf => ?_) (fun hf => ?_)
            · refine lv_iload_n hx hb dX9_story_124 rfl (lv_at hl 2 rfl) ?_
              refine r_if_ne (tgt := 130) S dX9_story_125 (by decide) hf (fun hf => ?_) (fun hf => ?_)
              · refine lv_iload_n hx hb dX9_story_130 rfl (lv_at hl 2 rfl) ?_
                refine lv_iconst (v := 1) hx hb dX9_story_131 (by decide) ?_
                refine r_icmp_ne (tgt := 138) S dX9_story_132 (by decide) hf (fun hf => ?_) (fun hf => ?_)
                · refine lv_aload_n hx hb dX9_story_138 rfl (lv_at hl 0 rfl) ?_
                  refine gf_X9_10 S hK hP h0 dX9_story_139 hf (fun x11 hx11 hf => ?_)
                  refine lv_aload_n hx hb dX9_story_142 rfl (lv_at hl 0 rfl) ?_
                  refine gf_X9_10 S hK hP h0 dX9_story_143 hf (fun x12 hx12 hf => ?_)
                  refine gf_X9_203 S hK hP hx12 dX9_story_146 hf (fun x13 hx13 hf => ?_)
                  refine lv_iload_n hx hb dX9_story_149 rfl (lv_at hl 2 rfl) ?_
                  refine lv_iconst (v := 2) hx hb dX9_story_150 (by decide) ?_
                  refine lv_isub hx hb dX9_story_151 ?_
                  refine r_iald S hK hP hx13 dX9_story_152 hf (fun x14 hf => ?_)
                  refine r_callV (As := [.int x14]) (rest := []) S hK hE hst hP hS hx11 (by decide) rfl (cw_X9_206 ht ⟨Nat.le_of_ble_eq_true rfl, Nat.le_of_ble_eq_true rfl⟩) rfl hl.1 rfl (Nat.le_of_ble_eq_true rfl) dX9_story_153 z2 (fun _ _ h => c_X6_cheapestKind hG  hx11 h) hf (fun x15 M H locs hP hS bx15 hf => ?_)
                  exact hret _ _ _ _ _ _ dX9_story_156 hP hS rfl hf
                · refine lv_iload hx hb dX9_story_135 (lv_at hl 4 rfl) ?_
                  exact hret _ _ _ _ _ _ dX9_story_137 hP hS rfl hf
              · refine lv_iload_n hx hb dX9_story_128 rfl (lv_at hl 3 rfl) ?_
                exact hret _ _ _ _ _ _ dX9_story_129 hP hS rfl hf
            · refine lv_ldc (v := (-1000000005)) hx hb hown (ht _ k_439) dX9_story_121 ?_
              exact hret _ _ _ _ _ _ dX9_story_123 hP hS rfl hf
          · refine lv_aload_n hx hb dX9_story_50 rfl (lv_at hl 0 rfl) ?_
            refine gf_X9_10 S hK hP h0 dX9_story_51 hf (fun x16 hx16 hf => ?_)
            refine lv_aload_n hx hb dX9_story_54 rfl (lv_at hl 0 rfl) ?_
            refine gf_X9_10 S hK hP h0 dX9_story_55 hf (fun x17 hx17 hf => ?_)
            refine gf_X9_203 S hK hP hx17 dX9_story_58 hf (fun x18 hx18 hf => ?_)
            refine lv_iload hx hb dX9_story_61 (lv_at hl 5 rfl) ?_
            refine r_iald S hK hP hx18 dX9_story_63 hf (fun x19 hf => ?_)
            refine r_callV (As := [.int x19]) (rest := []) S hK hE hst hP hS hx16 (by decide) rfl (cw_X9_206 ht ⟨Nat.le_of_ble_eq_true rfl, Nat.le_of_ble_eq_true rfl⟩) rfl hl.1 rfl (Nat.le_of_ble_eq_true rfl) dX9_story_64 z2 (fun _ _ h => c_X6_cheapestKind hG  hx16 h) hf (fun x20 M H locs hP hS bx20 hf => ?_)
            refine lv_istore (lv' := [(6, .int x20), (0, .ref (ad o)), (1, .int p1), (2, .int p2), (3, .int v5), (4, .int v6), (5, .int v7)]) hx hb dX9_story_67 hl (by decide) rfl (fun ls hl => ?_)
            refine lv_iload_n hx hb dX9_story_69 rfl (lv_at hl 4 rfl) ?_
            refine lv_iload hx hb dX9_story_70 (lv_at hl 0 rfl) ?_
            refine lv_aload_n hx hb dX9_story_72 rfl (lv_at hl 1 rfl) ?_
            refine gf_X9_10 S hK hP h0 dX9_story_73 hf (fun x21 hx21 hf => ?_)
            refine gf_X9_49 S hK hP hx21 dX9_story_76 hf (fun x22 hx22 hf => ?_)
            refine gf_X9_90 S hK hP hx22 dX9_story_79 hf (fun x23 hx23 hf => ?_)
            refine lv_aload_n hx hb dX9_story_82 rfl (lv_at hl 1 rfl) ?_
            refine gf_X9_10 S hK hP h0 dX9_story_83 hf (fun x24 hx24 hf => ?_)
            refine gf_X9_203 S hK hP hx24 dX9_story_86 hf (fun x25 hx25 hf => ?_)
            refine lv_iload hx hb dX9_story_89 (lv_at hl 6 rfl) ?_
            refine r_iald S hK hP hx25 dX9_story_91 hf (fun x26 hf => ?_)
            refine r_iald S hK hP hx23 dX9_story_92 hf (fun x27 hf => ?_)
            refine r_callS (As := [.int x20, .int x27]) (rest := [.int v5]) S hK hE hst hP hS (cw_X9_101 ht ⟨Nat.le_of_ble_eq_true rfl, Nat.le_of_ble_eq_true rfl⟩) rfl hl.1 rfl (Nat.le_of_ble_eq_true rfl) dX9_story_93 z2 (fun _ _ h => c_X9_price hG  h) hf (fun x28 M H locs hP hS bx28 hf => ?_)
            refine lv_iadd hx hb dX9_story_96 ?_
            refine r_vi hf (fun x29 hf => ?_)
            refine lv_istore_n (lv' := [(3, .int x29), (6, .int x20), (0, .ref (ad o)), (1, .int p1), (2, .int p2), (4, .int v6), (5, .int v7)]) hx hb dX9_story_97 rfl hl (by decide) rfl (fun ls hl => ?_)
            refine lv_iload hx hb dX9_story_98 (lv_at hl 1 rfl) ?_
            refine r_callS (As := [.int x20]) (rest := []) S hK hE hst hP hS (cw_X9_209 ht ⟨Nat.le_of_ble_eq_true rfl, Nat.le_of_ble_eq_true rfl⟩) rfl hl.1 rfl (Nat.le_of_ble_eq_true rfl) dX9_story_100 z2 (fun _ _ h => c_X9_isUnkind hG  h) hf (fun x30 M H locs hP hS bx30 hf => ?_)
            refine r_if_eq (tgt := 109) S dX9_story_103 (by decide) hf (fun hf => ?_) (fun hf => ?_)
            · refine lv_iinc (v := (v7 + 1)) (lv' := [(5, .int (v7 + 1)), (3, .int x29), (6, .int x20), (0, .ref (ad o)), (1, .int p1), (2, .int p2), (4, .int v6)]) hx hb dX9_story_109 hl (k := 6) rfl rfl (by decide) rfl (fun ls hl => ?_)
              refine lv_goto (tgt := 38) hx hb dX9_story_112 (by decide) ?_
              exact ih8 x29 v6 (v7 + 1) M H locs ls (lv_sub hl [3, 4, 5, 1, 6, 0] rfl) hP hS hf
            · refine lv_iinc (v := (v6 + 1)) (lv' := [(4, .int (v6 + 1)), (3, .int x29), (6, .int x20), (0, .ref (ad o)), (1, .int p1), (2, .int p2), (5, .int v7)]) hx hb dX9_story_106 hl (k := 5) rfl rfl (by decide) rfl (fun ls hl => ?_)
              refine lv_iinc (v := (v7 + 1)) (lv' := [(5, .int (v7 + 1)), (4, .int (v6 + 1)), (3, .int x29), (6, .int x20), (0, .ref (ad o)), (1, .int p1), (2, .int p2)]) hx hb dX9_story_109 hl (k := 6) rfl rfl (by decide) rfl (fun ls hl => ?_)
              refine lv_goto (tgt := 38) hx hb dX9_story_112 (by decide) ?_
              exact ih8 x29 (v6 + 1) (v7 + 1) M H locs ls (lv_sub hl [4, 5, 6, 2, 1, 0] rfl) hP hS hf
      exact L8 _ 0 0 0 M H locs ls (lv_sub hl [3, 4, 5, 2, 1, 0] rfl) hP hS hf
    · refine lv_ldc (v := (-1000000001)) hx hb hown (ht _ k_405) dX9_story_27 ?_
      exact hret _ _ _ _ _ _ dX9_story_29 hP hS rfl hf
def f_X9_clear (o : Nat) (M : Mem) : Option (Int32 × Mem) :=
  vv (grf G1 o 0) fun x1 =>
  vv (M x1 6) fun x2 =>
  vv (grf G1 o 0) fun x3 =>
  mm (up M x3 6 0) fun M =>
  some (x2, M)
def rm_X9_clear : Room := { frames := 0, cells := 0, slots := 0, locals := 0 }
set_option maxHeartbeats 4000000 in
set_option maxRecDepth 100000 in
theorem c_X9_clear {l : Launch} {D : va_G} {K : Ks} {ad : Nat → Nat} {A : Nat → Prop} {tC tA tP : Nat} {kK kV : Nat → Nat} (hG : Gok G1 ad A) {o : Nat} (h0 : gcl G1 o = 9) {M : Mem} {r : Int32} {M' : Mem} (hf : f_X9_clear o M = some (r, M')) : Ct l (E1 A tC tA tP kK kV) D K G1 ad A yX9_clear (ws_of yX9_clear cX9_clear 2 (some .int)) rm_X9_clear .int [.ref (ad o)] M r M' := by
  have hst : Est A (E1 A tC tA tP kK kV) := est1
  refine Ct.ofW (by decide) (Nat.le_of_ble_eq_true rfl) ?_
  intro p e s m args below meth c Q H locs ls S hK hE hP hS hl hret
  have hx := S.1
  have hb := S.2.1
  have hown := S.2.2.2.1
  have ht := S.2.2.2.2
  have hl : lv_has ls 2 [(0, .ref (ad o))] := hl
  unfold f_X9_clear at hf
  refine lv_aload_n hx hb dX9_clear_0 rfl (lv_at hl 0 rfl) ?_
  refine gf_X9_10 S hK hP h0 dX9_clear_1 hf (fun x1 hx1 hf => ?_)
  refine gf_X9_200 S hK hP hx1 dX9_clear_4 hf (fun x2 hf => ?_)
  refine lv_istore_n (lv' := [(1, .int x2), (0, .ref (ad o))]) hx hb dX9_clear_7 rfl hl (by decide) rfl (fun ls hl => ?_)
  refine lv_aload_n hx hb dX9_clear_8 rfl (lv_at hl 1 rfl) ?_
  refine gf_X9_10 S hK hP h0 dX9_clear_9 hf (fun x3 hx3 hf => ?_)
  refine lv_iconst (v := 0) hx hb dX9_clear_12 (by decide) ?_
  refine pf_X9_200 S hK hG hP hS hx3 dX9_clear_13 hf (fun M H locs hP hS hf => ?_)
  refine lv_iload_n hx hb dX9_clear_16 rfl (lv_at hl 0 rfl) ?_
  exact hret _ _ _ _ _ _ dX9_clear_17 hP hS rfl hf
def f_X9_isPlace (p0 : Int32) (M : Mem) : Option (Int32 × Mem) :=
  bd (f_X9_within p0 0 5 M) fun x1 M =>
  some (x1, M)
def rm_X9_isPlace : Room := { frames := 1, cells := 0, slots := 0, locals := 22 }
set_option maxHeartbeats 4000000 in
set_option maxRecDepth 100000 in
theorem c_X9_isPlace {l : Launch} {D : va_G} {K : Ks} {ad : Nat → Nat} {A : Nat → Prop} {tC tA tP : Nat} {kK kV : Nat → Nat} (hG : Gok G1 ad A) {p0 : Int32}  {M : Mem} {r : Int32} {M' : Mem} (hf : f_X9_isPlace p0 M = some (r, M')) : Ct l (E1 A tC tA tP kK kV) D K G1 ad A yX9_isPlace (ws_of yX9_isPlace cX9_isPlace 1 (some .boolean)) rm_X9_isPlace .boolean [.int p0] M r M' := by
  have hst : Est A (E1 A tC tA tP kK kV) := est1
  refine Ct.ofW (by decide) (Nat.le_of_ble_eq_true rfl) ?_
  intro p e s m args below meth c Q H locs ls S hK hE hP hS hl hret
  have hx := S.1
  have hb := S.2.1
  have hown := S.2.2.2.1
  have ht := S.2.2.2.2
  have hl : lv_has ls 1 [(0, .int p0)] := hl
  unfold f_X9_isPlace at hf
  refine lv_iload_n hx hb dX9_isPlace_0 rfl (lv_at hl 0 rfl) ?_
  refine lv_iconst (v := 0) hx hb dX9_isPlace_1 (by decide) ?_
  refine lv_iconst (v := 5) hx hb dX9_isPlace_2 (by decide) ?_
  refine r_callS (As := [.int p0, .int 0, .int 5]) (rest := []) S hK hE hst hP hS (cw_X9_44 ht ⟨Nat.le_of_ble_eq_true rfl, Nat.le_of_ble_eq_true rfl⟩) rfl hl.1 rfl (Nat.le_of_ble_eq_true rfl) dX9_isPlace_3 z2 (fun _ _ h => c_X9_within hG  h) hf (fun x1 M H locs hP hS bx1 hf => ?_)
  exact hret _ _ _ _ _ _ dX9_isPlace_6 hP hS bx1 hf
theorem cw_X9_212 {R : Room} {s : State} {args : Array Value} (ht : ∀ w ∈ Tw, w.before args s = true) (hR : rm_X9_isPlace.frames + 1 ≤ R.frames ∧ 8 + (1 + 11) + rm_X9_isPlace.locals ≤ R.locals) : CallB R s args RX9 212 yX9_isPlace cX9_isPlace 1 (some .boolean) (ws_of yX9_isPlace cX9_isPlace 1 (some .boolean)) rm_X9_isPlace 0 0 1 ∧ (Cond.static yX9_isPlace).before args s = true := cw_S 1 ht k_840 k_841 k_63 k_842 (by decide +kernel) rfl rfl hR
theorem cw_X9_219 {R : Room} {s : State} {args : Array Value} (ht : ∀ w ∈ Tw, w.before args s = true) (hR : rm_X2_setRoad.frames + 1 ≤ R.frames ∧ 8 + (5 + 11) + rm_X2_setRoad.locals ≤ R.locals) : CallW R s args RX9 RX2 219 yX2_setRoad cX2_setRoad 5 (some .int) (ws_of yX2_setRoad cX2_setRoad 5 (some .int)) rm_X2_setRoad 0 0 3 := cw_V 3 ht k_843 k_844 k_845 k_68 k_846 (by decide +kernel) rfl rfl hR
section
variable {p : Program} {l : Launch} {e : Env} {R : Room} {s : State} {m : MethodId} {args : Array Value} {below : List Frame} {meth : Method} {c : Code} {H : Heap} {locs : List Loc} {cells slots : Nat} {Q : State → Prop} {cc : ByteArray} {pc : Nat} {ls : Array Slot} {rest : List Value} {nL : Nat} {D : va_G} {K : Ks} {ad : Nat → Nat} {A : Nat → Prop} {M : Mem} {β : Type} {z : β}
theorem gf_X9_215 (S : CallFix p m c cc nL s args Tw RX9) (hK : va_K D classes (gty K) s) (hP : va_P D classes (gws K G1 ad M) H) {a : Nat} {kk : Nat → Option β} (ha : gcl G1 a = 6) (hdg : decode cc pc = .ok (.getfield 215, 3)) (hf : vv (grf G1 a 3) kk = some z) (w : ∀ b, gcl G1 b = 2 → kk b = some z → W p l e R s m args below meth c H locs cells slots Q (F0 m (pc + 3) ls (.ref (ad b) :: rest))) : W p l e R s m args below meth c H locs cells slots Q (F0 m pc ls (.ref (ad a) :: rest)) := r_getr S hK hP (T := TX6) inX6 rfl (by decide) (by decide) ha (sf_X6_3 ha).1 k_243 hdg hf (fun b e => w b (by rw [e]; exact (sf_X6_3 ha).2))
end
def f_X9_road (o : Nat) (p1 : Int32) (p2 : Int32) (p3 : Int32) (M : Mem) : Option (Int32 × Mem) :=
  bd (f_X9_isPlace p1 M) fun x1 M =>
  if x1 = 0 then
    some ((-1000000001), M)
  else
    bd (f_X9_isPlace p2 M) fun x2 M =>
    if x2 = 0 then
      some ((-1000000001), M)
    else
      if p1 = p2 then
        some ((-1000000001), M)
      else
        bd (f_X9_within p3 0 30 M) fun x3 M =>
        if x3 = 0 then
          some ((-1000000001), M)
        else
          vv (grf G1 o 0) fun x4 =>
          vv (grf G1 x4 3) fun x5 =>
          bd (f_X2_setRoad x5 p1 p2 p3 M) fun x6 M =>
          some (x6, M)
def rm_X9_road : Room := { frames := 2, cells := 0, slots := 0, locals := 42 }
set_option maxHeartbeats 4000000 in
set_option maxRecDepth 100000 in
theorem c_X9_road {l : Launch} {D : va_G} {K : Ks} {ad : Nat → Nat} {A : Nat → Prop} {tC tA tP : Nat} {kK kV : Nat → Nat} (hG : Gok G1 ad A) {o : Nat} {p1 : Int32} {p2 : Int32} {p3 : Int32} (h0 : gcl G1 o = 9) {M : Mem} {r : Int32} {M' : Mem} (hf : f_X9_road o p1 p2 p3 M = some (r, M')) : Ct l (E1 A tC tA tP kK kV) D K G1 ad A yX9_road (ws_of yX9_road cX9_road 4 (some .int)) rm_X9_road .int [.ref (ad o), .int p1, .int p2, .int p3] M r M' := by
  have hst : Est A (E1 A tC tA tP kK kV) := est1
  refine Ct.ofW (by decide) (Nat.le_of_ble_eq_true rfl) ?_
  intro p e s m args below meth c Q H locs ls S hK hE hP hS hl hret
  have hx := S.1
  have hb := S.2.1
  have hown := S.2.2.2.1
  have ht := S.2.2.2.2
  have hl : lv_has ls 4 [(0, .ref (ad o)), (1, .int p1), (2, .int p2), (3, .int p3)] := hl
  unfold f_X9_road at hf
  refine lv_iload_n hx hb dX9_road_0 rfl (lv_at hl 1 rfl) ?_
  refine r_callS (As := [.int p1]) (rest := []) S hK hE hst hP hS (cw_X9_212 ht ⟨Nat.le_of_ble_eq_true rfl, Nat.le_of_ble_eq_true rfl⟩) rfl hl.1 rfl (Nat.le_of_ble_eq_true rfl) dX9_road_1 z2 (fun _ _ h => c_X9_isPlace hG  h) hf (fun x1 M H locs hP hS bx1 hf => ?_)
  refine r_if_eq (tgt := 29) S dX9_road_4 (by decide) hf (fun hf => ?_) (fun hf => ?_)
  · refine lv_ldc (v := (-1000000001)) hx hb hown (ht _ k_405) dX9_road_29 ?_
    exact hret _ _ _ _ _ _ dX9_road_31 hP hS rfl hf
  · refine lv_iload_n hx hb dX9_road_7 rfl (lv_at hl 2 rfl) ?_
    refine r_callS (As := [.int p2]) (rest := []) S hK hE hst hP hS (cw_X9_212 ht ⟨Nat.le_of_ble_eq_true rfl, Nat.le_of_ble_eq_true rfl⟩) rfl hl.1 rfl (Nat.le_of_ble_eq_true rfl) dX9_road_8 z2 (fun _ _ h => c_X9_isPlace hG  h) hf (fun x2 M H locs hP hS bx2 hf => ?_)
    refine r_if_eq (tgt := 29) S dX9_road_11 (by decide) hf (fun hf => ?_) (fun hf => ?_)
    · refine lv_ldc (v := (-1000000001)) hx hb hown (ht _ k_405) dX9_road_29 ?_
      exact hret _ _ _ _ _ _ dX9_road_31 hP hS rfl hf
    · refine lv_iload_n hx hb dX9_road_14 rfl (lv_at hl 1 rfl) ?_
      refine lv_iload_n hx hb dX9_road_15 rfl (lv_at hl 2 rfl) ?_
      refine r_icmp_eq (tgt := 29) S dX9_road_16 (by decide) hf (fun hf => ?_) (fun hf => ?_)
      · refine lv_ldc (v := (-1000000001)) hx hb hown (ht _ k_405) dX9_road_29 ?_
        exact hret _ _ _ _ _ _ dX9_road_31 hP hS rfl hf
      · refine lv_iload_n hx hb dX9_road_19 rfl (lv_at hl 3 rfl) ?_
        refine lv_iconst (v := 0) hx hb dX9_road_20 (by decide) ?_
        refine lv_bipush (v := 30) hx hb dX9_road_21 (by decide) ?_
        refine r_callS (As := [.int p3, .int 0, .int 30]) (rest := []) S hK hE hst hP hS (cw_X9_44 ht ⟨Nat.le_of_ble_eq_true rfl, Nat.le_of_ble_eq_true rfl⟩) rfl hl.1 rfl (Nat.le_of_ble_eq_true rfl) dX9_road_23 z2 (fun _ _ h => c_X9_within hG  h) hf (fun x3 M H locs hP hS bx3 hf => ?_)
        refine r_if_ne (tgt := 32) S dX9_road_26 (by decide) hf (fun hf => ?_) (fun hf => ?_)
        · refine lv_aload_n hx hb dX9_road_32 rfl (lv_at hl 0 rfl) ?_
          refine gf_X9_10 S hK hP h0 dX9_road_33 hf (fun x4 hx4 hf => ?_)
          refine gf_X9_215 S hK hP hx4 dX9_road_36 hf (fun x5 hx5 hf => ?_)
          refine lv_iload_n hx hb dX9_road_39 rfl (lv_at hl 1 rfl) ?_
          refine lv_iload_n hx hb dX9_road_40 rfl (lv_at hl 2 rfl) ?_
          refine lv_iload_n hx hb dX9_road_41 rfl (lv_at hl 3 rfl) ?_
          refine r_callV (As := [.int p1, .int p2, .int p3]) (rest := []) S hK hE hst hP hS hx5 (by decide) rfl (cw_X9_219 ht ⟨Nat.le_of_ble_eq_true rfl, Nat.le_of_ble_eq_true rfl⟩) rfl hl.1 rfl (Nat.le_of_ble_eq_true rfl) dX9_road_42 z2 (fun _ _ h => c_X2_setRoad hG  hx5 h) hf (fun x6 M H locs hP hS bx6 hf => ?_)
          exact hret _ _ _ _ _ _ dX9_road_45 hP hS rfl hf
        · refine lv_ldc (v := (-1000000001)) hx hb hown (ht _ k_405) dX9_road_29 ?_
          exact hret _ _ _ _ _ _ dX9_road_31 hP hS rfl hf
theorem cw_X9_224 {R : Room} {s : State} {args : Array Value} (ht : ∀ w ∈ Tw, w.before args s = true) (hR : rm_X2_leastDays.frames + 1 ≤ R.frames ∧ 8 + (4 + 11) + rm_X2_leastDays.locals ≤ R.locals) : CallW R s args RX9 RX2 224 yX2_leastDays cX2_leastDays 4 (some .int) (ws_of yX2_leastDays cX2_leastDays 4 (some .int)) rm_X2_leastDays 0 0 2 := cw_V 2 ht k_851 k_852 k_853 k_68 k_854 (by decide +kernel) rfl rfl hR
def f_X9_far (o : Nat) (p1 : Int32) (p2 : Int32) (M : Mem) : Option (Int32 × Mem) :=
  bd (f_X9_isPlace p1 M) fun x1 M =>
  if x1 = 0 then
    some ((-1000000001), M)
  else
    bd (f_X9_isPlace p2 M) fun x2 M =>
    if x2 = 0 then
      some ((-1000000001), M)
    else
      vv (grf G1 o 0) fun x3 =>
      vv (grf G1 x3 3) fun x4 =>
      bd (f_X2_leastDays x4 p1 p2 M) fun x5 M =>
      some (x5, M)
def rm_X9_far : Room := { frames := 3, cells := 0, slots := 0, locals := 106 }
set_option maxHeartbeats 4000000 in
set_option maxRecDepth 100000 in
theorem c_X9_far {l : Launch} {D : va_G} {K : Ks} {ad : Nat → Nat} {A : Nat → Prop} {tC tA tP : Nat} {kK kV : Nat → Nat} (hG : Gok G1 ad A) {o : Nat} {p1 : Int32} {p2 : Int32} (h0 : gcl G1 o = 9) {M : Mem} {r : Int32} {M' : Mem} (hf : f_X9_far o p1 p2 M = some (r, M')) : Ct l (E1 A tC tA tP kK kV) D K G1 ad A yX9_far (ws_of yX9_far cX9_far 3 (some .int)) rm_X9_far .int [.ref (ad o), .int p1, .int p2] M r M' := by
  have hst : Est A (E1 A tC tA tP kK kV) := est1
  refine Ct.ofW (by decide) (Nat.le_of_ble_eq_true rfl) ?_
  intro p e s m args below meth c Q H locs ls S hK hE hP hS hl hret
  have hx := S.1
  have hb := S.2.1
  have hown := S.2.2.2.1
  have ht := S.2.2.2.2
  have hl : lv_has ls 3 [(0, .ref (ad o)), (1, .int p1), (2, .int p2)] := hl
  unfold f_X9_far at hf
  refine lv_iload_n hx hb dX9_far_0 rfl (lv_at hl 1 rfl) ?_
  refine r_callS (As := [.int p1]) (rest := []) S hK hE hst hP hS (cw_X9_212 ht ⟨Nat.le_of_ble_eq_true rfl, Nat.le_of_ble_eq_true rfl⟩) rfl hl.1 rfl (Nat.le_of_ble_eq_true rfl) dX9_far_1 z2 (fun _ _ h => c_X9_isPlace hG  h) hf (fun x1 M H locs hP hS bx1 hf => ?_)
  refine r_if_eq (tgt := 14) S dX9_far_4 (by decide) hf (fun hf => ?_) (fun hf => ?_)
  · refine lv_ldc (v := (-1000000001)) hx hb hown (ht _ k_405) dX9_far_14 ?_
    exact hret _ _ _ _ _ _ dX9_far_16 hP hS rfl hf
  · refine lv_iload_n hx hb dX9_far_7 rfl (lv_at hl 2 rfl) ?_
    refine r_callS (As := [.int p2]) (rest := []) S hK hE hst hP hS (cw_X9_212 ht ⟨Nat.le_of_ble_eq_true rfl, Nat.le_of_ble_eq_true rfl⟩) rfl hl.1 rfl (Nat.le_of_ble_eq_true rfl) dX9_far_8 z2 (fun _ _ h => c_X9_isPlace hG  h) hf (fun x2 M H locs hP hS bx2 hf => ?_)
    refine r_if_ne (tgt := 17) S dX9_far_11 (by decide) hf (fun hf => ?_) (fun hf => ?_)
    · refine lv_aload_n hx hb dX9_far_17 rfl (lv_at hl 0 rfl) ?_
      refine gf_X9_10 S hK hP h0 dX9_far_18 hf (fun x3 hx3 hf => ?_)
      refine gf_X9_215 S hK hP hx3 dX9_far_21 hf (fun x4 hx4 hf => ?_)
      refine lv_iload_n hx hb dX9_far_24 rfl (lv_at hl 1 rfl) ?_
      refine lv_iload_n hx hb dX9_far_25 rfl (lv_at hl 2 rfl) ?_
      refine r_callV (As := [.int p1, .int p2]) (rest := []) S hK hE hst hP hS hx4 (by decide) rfl (cw_X9_224 ht ⟨Nat.le_of_ble_eq_true rfl, Nat.le_of_ble_eq_true rfl⟩) rfl hl.1 rfl (Nat.le_of_ble_eq_true rfl) dX9_far_26 z2 (fun _ _ h => c_X2_leastDays hG  hx4 h) hf (fun x5 M H locs hP hS bx5 hf => ?_)
      exact hret _ _ _ _ _ _ dX9_far_29 hP hS rfl hf
    · refine lv_ldc (v := (-1000000001)) hx hb hown (ht _ k_405) dX9_far_14 ?_
      exact hret _ _ _ _ _ _ dX9_far_16 hP hS rfl hf
theorem cw_X9_227 {R : Room} {s : State} {args : Array Value} (ht : ∀ w ∈ Tw, w.before args s = true) (hR : rm_X2_write.frames + 1 ≤ R.frames ∧ 8 + (4 + 11) + rm_X2_write.locals ≤ R.locals) : CallW R s args RX9 RX2 227 yX2_write cX2_write 4 (some .int) (ws_of yX2_write cX2_write 4 (some .int)) rm_X2_write 0 0 2 := cw_V 2 ht k_866 k_867 k_868 k_68 k_869 (by decide +kernel) rfl rfl hR
def f_X9_diary (o : Nat) (p1 : Int32) (p2 : Int32) (M : Mem) : Option (Int32 × Mem) :=
  bd (f_X9_within p1 0 9999 M) fun x1 M =>
  if x1 = 0 then
    some ((-1000000001), M)
  else
    bd (f_X9_isPlace p2 M) fun x2 M =>
    if x2 = 0 then
      some ((-1000000001), M)
    else
      vv (grf G1 o 0) fun x3 =>
      vv (grf G1 x3 3) fun x4 =>
      bd (f_X2_write x4 p1 p2 M) fun x5 M =>
      some (x5, M)
def rm_X9_diary : Room := { frames := 2, cells := 0, slots := 0, locals := 42 }
set_option maxHeartbeats 4000000 in
set_option maxRecDepth 100000 in
theorem c_X9_diary {l : Launch} {D : va_G} {K : Ks} {ad : Nat → Nat} {A : Nat → Prop} {tC tA tP : Nat} {kK kV : Nat → Nat} (hG : Gok G1 ad A) {o : Nat} {p1 : Int32} {p2 : Int32} (h0 : gcl G1 o = 9) {M : Mem} {r : Int32} {M' : Mem} (hf : f_X9_diary o p1 p2 M = some (r, M')) : Ct l (E1 A tC tA tP kK kV) D K G1 ad A yX9_diary (ws_of yX9_diary cX9_diary 3 (some .int)) rm_X9_diary .int [.ref (ad o), .int p1, .int p2] M r M' := by
  have hst : Est A (E1 A tC tA tP kK kV) := est1
  refine Ct.ofW (by decide) (Nat.le_of_ble_eq_true rfl) ?_
  intro p e s m args below meth c Q H locs ls S hK hE hP hS hl hret
  have hx := S.1
  have hb := S.2.1
  have hown := S.2.2.2.1
  have ht := S.2.2.2.2
  have hl : lv_has ls 3 [(0, .ref (ad o)), (1, .int p1), (2, .int p2)] := hl
  unfold f_X9_diary at hf
  refine lv_iload_n hx hb dX9_diary_0 rfl (lv_at hl 1 rfl) ?_
  refine lv_iconst (v := 0) hx hb dX9_diary_1 (by decide) ?_
  refine lv_sipush (v := 9999) hx hb dX9_diary_2 (by decide) ?_
  refine r_callS (As := [.int p1, .int 0, .int 9999]) (rest := []) S hK hE hst hP hS (cw_X9_44 ht ⟨Nat.le_of_ble_eq_true rfl, Nat.le_of_ble_eq_true rfl⟩) rfl hl.1 rfl (Nat.le_of_ble_eq_true rfl) dX9_diary_5 z2 (fun _ _ h => c_X9_within hG  h) hf (fun x1 M H locs hP hS bx1 hf => ?_)
  refine r_if_eq (tgt := 18) S dX9_diary_8 (by decide) hf (fun hf => ?_) (fun hf => ?_)
  · refine lv_ldc (v := (-1000000001)) hx hb hown (ht _ k_405) dX9_diary_18 ?_
    exact hret _ _ _ _ _ _ dX9_diary_20 hP hS rfl hf
  · refine lv_iload_n hx hb dX9_diary_11 rfl (lv_at hl 2 rfl) ?_
    refine r_callS (As := [.int p2]) (rest := []) S hK hE hst hP hS (cw_X9_212 ht ⟨Nat.le_of_ble_eq_true rfl, Nat.le_of_ble_eq_true rfl⟩) rfl hl.1 rfl (Nat.le_of_ble_eq_true rfl) dX9_diary_12 z2 (fun _ _ h => c_X9_isPlace hG  h) hf (fun x2 M H locs hP hS bx2 hf => ?_)
    refine r_if_ne (tgt := 21) S dX9_diary_15 (by decide) hf (fun hf => ?_) (fun hf => ?_)
    · refine lv_aload_n hx hb dX9_diary_21 rfl (lv_at hl 0 rfl) ?_
      refine gf_X9_10 S hK hP h0 dX9_diary_22 hf (fun x3 hx3 hf => ?_)
      refine gf_X9_215 S hK hP hx3 dX9_diary_25 hf (fun x4 hx4 hf => ?_)
      refine lv_iload_n hx hb dX9_diary_28 rfl (lv_at hl 1 rfl) ?_
      refine lv_iload_n hx hb dX9_diary_29 rfl (lv_at hl 2 rfl) ?_
      refine r_callV (As := [.int p1, .int p2]) (rest := []) S hK hE hst hP hS hx4 (by decide) rfl (cw_X9_227 ht ⟨Nat.le_of_ble_eq_true rfl, Nat.le_of_ble_eq_true rfl⟩) rfl hl.1 rfl (Nat.le_of_ble_eq_true rfl) dX9_diary_30 z2 (fun _ _ h => c_X2_write hG  hx4 h) hf (fun x5 M H locs hP hS bx5 hf => ?_)
      exact hret _ _ _ _ _ _ dX9_diary_33 hP hS rfl hf
    · refine lv_ldc (v := (-1000000001)) hx hb hown (ht _ k_405) dX9_diary_18 ?_
      exact hret _ _ _ _ _ _ dX9_diary_20 hP hS rfl hf
theorem cw_X9_230 {R : Room} {s : State} {args : Array Value} (ht : ∀ w ∈ Tw, w.before args s = true) (hR : rm_X2_allows.frames + 1 ≤ R.frames ∧ 8 + (7 + 11) + rm_X2_allows.locals ≤ R.locals) : CallW R s args RX9 RX2 230 yX2_allows cX2_allows 7 (some .boolean) (ws_of yX2_allows cX2_allows 7 (some .boolean)) rm_X2_allows 0 0 3 := cw_V 3 ht k_876 k_877 k_878 k_68 k_879 (by decide +kernel) rfl rfl hR
def f_X9_could (o : Nat) (p1 : Int32) (p2 : Int32) (p3 : Int32) (M : Mem) : Option (Int32 × Mem) :=
  bd (f_X9_isPlace p1 M) fun x1 M =>
  if x1 = 0 then
    some ((-1000000001), M)
  else
    bd (f_X9_within p2 0 9999 M) fun x2 M =>
    if x2 = 0 then
      some ((-1000000001), M)
    else
      bd (f_X9_within p3 1 99 M) fun x3 M =>
      if x3 = 0 then
        some ((-1000000001), M)
      else
        vv (grf G1 o 0) fun x4 =>
        vv (grf G1 x4 3) fun x5 =>
        bd (f_X2_allows x5 p1 p2 ((p2 + p3) - 1) M) fun x6 M =>
        if x6 = 0 then
          some (0, M)
        else
          some (1, M)
def rm_X9_could : Room := { frames := 5, cells := 0, slots := 0, locals := 156 }
set_option maxHeartbeats 4000000 in
set_option maxRecDepth 100000 in
theorem c_X9_could {l : Launch} {D : va_G} {K : Ks} {ad : Nat → Nat} {A : Nat → Prop} {tC tA tP : Nat} {kK kV : Nat → Nat} (hG : Gok G1 ad A) {o : Nat} {p1 : Int32} {p2 : Int32} {p3 : Int32} (h0 : gcl G1 o = 9) {M : Mem} {r : Int32} {M' : Mem} (hf : f_X9_could o p1 p2 p3 M = some (r, M')) : Ct l (E1 A tC tA tP kK kV) D K G1 ad A yX9_could (ws_of yX9_could cX9_could 4 (some .int)) rm_X9_could .int [.ref (ad o), .int p1, .int p2, .int p3] M r M' := by
  have hst : Est A (E1 A tC tA tP kK kV) := est1
  refine Ct.ofW (by decide) (Nat.le_of_ble_eq_true rfl) ?_
  intro p e s m args below meth c Q H locs ls S hK hE hP hS hl hret
  have hx := S.1
  have hb := S.2.1
  have hown := S.2.2.2.1
  have ht := S.2.2.2.2
  have hl : lv_has ls 4 [(0, .ref (ad o)), (1, .int p1), (2, .int p2), (3, .int p3)] := hl
  unfold f_X9_could at hf
  refine lv_iload_n hx hb dX9_could_0 rfl (lv_at hl 1 rfl) ?_
  refine r_callS (As := [.int p1]) (rest := []) S hK hE hst hP hS (cw_X9_212 ht ⟨Nat.le_of_ble_eq_true rfl, Nat.le_of_ble_eq_true rfl⟩) rfl hl.1 rfl (Nat.le_of_ble_eq_true rfl) dX9_could_1 z2 (fun _ _ h => c_X9_isPlace hG  h) hf (fun x1 M H locs hP hS bx1 hf => ?_)
  refine r_if_eq (tgt := 28) S dX9_could_4 (by decide) hf (fun hf => ?_) (fun hf => ?_)
  · refine lv_ldc (v := (-1000000001)) hx hb hown (ht _ k_405) dX9_could_28 ?_
    exact hret _ _ _ _ _ _ dX9_could_30 hP hS rfl hf
  · refine lv_iload_n hx hb dX9_could_7 rfl (lv_at hl 2 rfl) ?_
    refine lv_iconst (v := 0) hx hb dX9_could_8 (by decide) ?_
    refine lv_sipush (v := 9999) hx hb dX9_could_9 (by decide) ?_
    refine r_callS (As := [.int p2, .int 0, .int 9999]) (rest := []) S hK hE hst hP hS (cw_X9_44 ht ⟨Nat.le_of_ble_eq_true rfl, Nat.le_of_ble_eq_true rfl⟩) rfl hl.1 rfl (Nat.le_of_ble_eq_true rfl) dX9_could_12 z2 (fun _ _ h => c_X9_within hG  h) hf (fun x2 M H locs hP hS bx2 hf => ?_)
    refine r_if_eq (tgt := 28) S dX9_could_15 (by decide) hf (fun hf => ?_) (fun hf => ?_)
    · refine lv_ldc (v := (-1000000001)) hx hb hown (ht _ k_405) dX9_could_28 ?_
      exact hret _ _ _ _ _ _ dX9_could_30 hP hS rfl hf
    · refine lv_iload_n hx hb dX9_could_18 rfl (lv_at hl 3 rfl) ?_
      refine lv_iconst (v := 1) hx hb dX9_could_19 (by decide) ?_
      refine lv_bipush (v := 99) hx hb dX9_could_20 (by decide) ?_
      refine r_callS (As := [.int p3, .int 1, .int 99]) (rest := []) S hK hE hst hP hS (cw_X9_44 ht ⟨Nat.le_of_ble_eq_true rfl, Nat.le_of_ble_eq_true rfl⟩) rfl hl.1 rfl (Nat.le_of_ble_eq_true rfl) dX9_could_22 z2 (fun _ _ h => c_X9_within hG  h) hf (fun x3 M H locs hP hS bx3 hf => ?_)
      refine r_if_ne (tgt := 31) S dX9_could_25 (by decide) hf (fun hf => ?_) (fun hf => ?_)
      · refine lv_aload_n hx hb dX9_could_31 rfl (lv_at hl 0 rfl) ?_
        refine gf_X9_10 S hK hP h0 dX9_could_32 hf (fun x4 hx4 hf => ?_)
        refine gf_X9_215 S hK hP hx4 dX9_could_35 hf (fun x5 hx5 hf => ?_)
        refine lv_iload_n hx hb dX9_could_38 rfl (lv_at hl 1 rfl) ?_
        refine lv_iload_n hx hb dX9_could_39 rfl (lv_at hl 2 rfl) ?_
        refine lv_iload_n hx hb dX9_could_40 rfl (lv_at hl 2 rfl) ?_
        refine lv_iload_n hx hb dX9_could_41 rfl (lv_at hl 3 rfl) ?_
        refine lv_iadd hx hb dX9_could_42 ?_
        refine lv_iconst (v := 1) hx hb dX9_could_43 (by decide) ?_
        refine lv_isub hx hb dX9_could_44 ?_
        refine r_callV (As := [.int p1, .int p2, .int ((p2 + p3) - 1)]) (rest := []) S hK hE hst hP hS hx5 (by decide) rfl (cw_X9_230 ht ⟨Nat.le_of_ble_eq_true rfl, Nat.le_of_ble_eq_true rfl⟩) rfl hl.1 rfl (Nat.le_of_ble_eq_true rfl) dX9_could_45 z2 (fun _ _ h => c_X2_allows hG  hx5 h) hf (fun x6 M H locs hP hS bx6 hf => ?_)
        refine r_if_eq (tgt := 55) S dX9_could_48 (by decide) hf (fun hf => ?_) (fun hf => ?_)
        · refine lv_iconst (v := 0) hx hb dX9_could_55 (by decide) ?_
          exact hret _ _ _ _ _ _ dX9_could_56 hP hS rfl hf
        · refine lv_iconst (v := 1) hx hb dX9_could_51 (by decide) ?_
          refine lv_goto (tgt := 56) hx hb dX9_could_52 (by decide) ?_
          exact hret _ _ _ _ _ _ dX9_could_56 hP hS rfl hf
      · refine lv_ldc (v := (-1000000001)) hx hb hown (ht _ k_405) dX9_could_28 ?_
        exact hret _ _ _ _ _ _ dX9_could_30 hP hS rfl hf
def f_X9_lowBits (p0 : Int32) (M : Mem) : Option (Int32 × Mem) :=
  some ((((1 : Int32) <<< (p0 &&& 31)) - 1), M)
def rm_X9_lowBits : Room := { frames := 0, cells := 0, slots := 0, locals := 0 }
set_option maxHeartbeats 4000000 in
set_option maxRecDepth 100000 in
theorem c_X9_lowBits {l : Launch} {D : va_G} {K : Ks} {ad : Nat → Nat} {A : Nat → Prop} {tC tA tP : Nat} {kK kV : Nat → Nat} (hG : Gok G1 ad A) {p0 : Int32}  {M : Mem} {r : Int32} {M' : Mem} (hf : f_X9_lowBits p0 M = some (r, M')) : Ct l (E1 A tC tA tP kK kV) D K G1 ad A yX9_lowBits (ws_of yX9_lowBits cX9_lowBits 1 (some .int)) rm_X9_lowBits .int [.int p0] M r M' := by
  have hst : Est A (E1 A tC tA tP kK kV) := est1
  refine Ct.ofW (by decide) (Nat.le_of_ble_eq_true rfl) ?_
  intro p e s m args below meth c Q H locs ls S hK hE hP hS hl hret
  have hx := S.1
  have hb := S.2.1
  have hown := S.2.2.2.1
  have ht := S.2.2.2.2
  have hl : lv_has ls 1 [(0, .int p0)] := hl
  unfold f_X9_lowBits at hf
  refine lv_iconst (v := 1) hx hb dX9_lowBits_0 (by decide) ?_
  refine lv_iload_n hx hb dX9_lowBits_1 rfl (lv_at hl 0 rfl) ?_
  refine lv_ishl hx hb dX9_lowBits_2 ?_
  refine lv_iconst (v := 1) hx hb dX9_lowBits_3 (by decide) ?_
  refine lv_isub hx hb dX9_lowBits_4 ?_
  exact hret _ _ _ _ _ _ dX9_lowBits_5 hP hS rfl hf
theorem cw_X9_240 {R : Room} {s : State} {args : Array Value} (ht : ∀ w ∈ Tw, w.before args s = true) (hR : rm_X9_lowBits.frames + 1 ≤ R.frames ∧ 8 + (1 + 11) + rm_X9_lowBits.locals ≤ R.locals) : CallB R s args RX9 240 yX9_lowBits cX9_lowBits 1 (some .int) (ws_of yX9_lowBits cX9_lowBits 1 (some .int)) rm_X9_lowBits 0 0 1 ∧ (Cond.static yX9_lowBits).before args s = true := cw_S 1 ht k_889 k_890 k_63 k_891 (by decide +kernel) rfl rfl hR
theorem cw_X9_248 {R : Room} {s : State} {args : Array Value} (ht : ∀ w ∈ Tw, w.before args s = true) (hR : rm_X1_addLeaner.frames + 1 ≤ R.frames ∧ 8 + (4 + 11) + rm_X1_addLeaner.locals ≤ R.locals) : CallW R s args RX9 RX1 248 yX1_addLeaner cX1_addLeaner 4 (some .int) (ws_of yX1_addLeaner cX1_addLeaner 4 (some .int)) rm_X1_addLeaner 0 0 3 := cw_V 3 ht k_892 k_893 k_894 k_69 k_895 (by decide +kernel) rfl rfl hR
section
variable {p : Program} {l : Launch} {e : Env} {R : Room} {s : State} {m : MethodId} {args : Array Value} {below : List Frame} {meth : Method} {c : Code} {H : Heap} {locs : List Loc} {cells slots : Nat} {Q : State → Prop} {cc : ByteArray} {pc : Nat} {ls : Array Slot} {rest : List Value} {nL : Nat} {D : va_G} {K : Ks} {ad : Nat → Nat} {A : Nat → Prop} {M : Mem} {β : Type} {z : β}
theorem gf_X9_233 (S : CallFix p m c cc nL s args Tw RX9) (hK : va_K D classes (gty K) s) (hP : va_P D classes (gws K G1 ad M) H) {a : Nat} {kk : Nat → Option β} (ha : gcl G1 a = 6) (hdg : decode cc pc = .ok (.getfield 233, 3)) (hf : vv (grf G1 a 4) kk = some z) (w : ∀ b, gcl G1 b = 1 → kk b = some z → W p l e R s m args below meth c H locs cells slots Q (F0 m (pc + 3) ls (.ref (ad b) :: rest))) : W p l e R s m args below meth c H locs cells slots Q (F0 m pc ls (.ref (ad a) :: rest)) := r_getr S hK hP (T := TX6) inX6 rfl (by decide) (by decide) ha (sf_X6_4 ha).1 k_245 hdg hf (fun b e => w b (by rw [e]; exact (sf_X6_4 ha).2))
end
section
variable {p : Program} {l : Launch} {e : Env} {R : Room} {s : State} {m : MethodId} {args : Array Value} {below : List Frame} {meth : Method} {c : Code} {H : Heap} {locs : List Loc} {cells slots : Nat} {Q : State → Prop} {cc : ByteArray} {pc : Nat} {ls : Array Slot} {rest : List Value} {nL : Nat} {D : va_G} {K : Ks} {ad : Nat → Nat} {A : Nat → Prop} {M : Mem} {β : Type} {z : β}
theorem gf_X9_237 (S : CallFix p m c cc nL s args Tw RX9) (hK : va_K D classes (gty K) s) (hP : va_P D classes (gws K G1 ad M) H) {a : Nat} {kk : Int32 → Option β} (ha : gcl G1 a = 0) (hdg : decode cc pc = .ok (.getfield 237, 3)) (hf : vv (M a 0) kk = some z) (w : ∀ x, kk x = some z → W p l e R s m args below meth c H locs cells slots Q (F0 m (pc + 3) ls (.int x :: rest))) : W p l e R s m args below meth c H locs cells slots Q (F0 m pc ls (.ref (ad a) :: rest)) := r_geti S hK hP (T := TX0) inX0 rfl (by decide) (by decide) ha (sf_X0_0 ha) k_103 hdg hf w
end
section
variable {p : Program} {l : Launch} {e : Env} {R : Room} {s : State} {m : MethodId} {args : Array Value} {below : List Frame} {meth : Method} {c : Code} {H : Heap} {locs : List Loc} {cells slots : Nat} {Q : State → Prop} {cc : ByteArray} {pc : Nat} {ls : Array Slot} {rest : List Value} {nL : Nat} {D : va_G} {K : Ks} {ad : Nat → Nat} {A : Nat → Prop} {M : Mem} {β : Type} {z : β}
theorem gf_X9_243 (S : CallFix p m c cc nL s args Tw RX9) (hK : va_K D classes (gty K) s) (hP : va_P D classes (gws K G1 ad M) H) {a : Nat} {kk : Int32 → Option β} (ha : gcl G1 a = 1) (hdg : decode cc pc = .ok (.getfield 243, 3)) (hf : vv (M a 0) kk = some z) (w : ∀ x, kk x = some z → W p l e R s m args below meth c H locs cells slots Q (F0 m (pc + 3) ls (.int x :: rest))) : W p l e R s m args below meth c H locs cells slots Q (F0 m pc ls (.ref (ad a) :: rest)) := r_geti S hK hP (T := TX1) inX1 rfl (by decide) (by decide) ha (sf_X1_0 ha) k_216 hdg hf w
end
def f_X9_leaner (o : Nat) (p1 : Int32) (p2 : Int32) (p3 : Int32) (M : Mem) : Option (Int32 × Mem) :=
  vv (grf G1 o 0) fun x1 =>
  vv (grf G1 x1 4) fun x2 =>
  vv (grf G1 o 0) fun x3 =>
  vv (grf G1 x3 0) fun x4 =>
  vv (M x4 0) fun x5 =>
  bd (f_X9_lowBits x5 M) fun x6 M =>
  if (p1 &&& (x6 ^^^ (-1))) = 0 then
    vv (M x2 0) fun x7 =>
    bd (f_X9_lowBits x7 M) fun x8 M =>
    if (p2 &&& (x8 ^^^ (-1))) = 0 then
      bd (f_X9_within p3 0 28 M) fun x9 M =>
      if x9 = 0 then
        some ((-1000000001), M)
      else
        bd (f_X1_addLeaner x2 p1 p2 p3 M) fun x10 M =>
        some (x10, M)
    else
      some ((-1000000001), M)
  else
    some ((-1000000001), M)
def rm_X9_leaner : Room := { frames := 1, cells := 0, slots := 0, locals := 23 }
set_option maxHeartbeats 4000000 in
set_option maxRecDepth 100000 in
theorem c_X9_leaner {l : Launch} {D : va_G} {K : Ks} {ad : Nat → Nat} {A : Nat → Prop} {tC tA tP : Nat} {kK kV : Nat → Nat} (hG : Gok G1 ad A) {o : Nat} {p1 : Int32} {p2 : Int32} {p3 : Int32} (h0 : gcl G1 o = 9) {M : Mem} {r : Int32} {M' : Mem} (hf : f_X9_leaner o p1 p2 p3 M = some (r, M')) : Ct l (E1 A tC tA tP kK kV) D K G1 ad A yX9_leaner (ws_of yX9_leaner cX9_leaner 5 (some .int)) rm_X9_leaner .int [.ref (ad o), .int p1, .int p2, .int p3] M r M' := by
  have hst : Est A (E1 A tC tA tP kK kV) := est1
  refine Ct.ofW (by decide) (Nat.le_of_ble_eq_true rfl) ?_
  intro p e s m args below meth c Q H locs ls S hK hE hP hS hl hret
  have hx := S.1
  have hb := S.2.1
  have hown := S.2.2.2.1
  have ht := S.2.2.2.2
  have hl : lv_has ls 5 [(0, .ref (ad o)), (1, .int p1), (2, .int p2), (3, .int p3)] := hl
  unfold f_X9_leaner at hf
  refine lv_aload_n hx hb dX9_leaner_0 rfl (lv_at hl 0 rfl) ?_
  refine gf_X9_10 S hK hP h0 dX9_leaner_1 hf (fun x1 hx1 hf => ?_)
  refine gf_X9_233 S hK hP hx1 dX9_leaner_4 hf (fun x2 hx2 hf => ?_)
  refine lv_astore (lv' := [(4, .ref (ad x2)), (0, .ref (ad o)), (1, .int p1), (2, .int p2), (3, .int p3)]) hx hb dX9_leaner_7 hl (by decide) rfl (fun ls hl => ?_)
  refine lv_iload_n hx hb dX9_leaner_9 rfl (lv_at hl 2 rfl) ?_
  refine lv_aload_n hx hb dX9_leaner_10 rfl (lv_at hl 1 rfl) ?_
  refine gf_X9_10 S hK hP h0 dX9_leaner_11 hf (fun x3 hx3 hf => ?_)
  refine gf_X9_49 S hK hP hx3 dX9_leaner_14 hf (fun x4 hx4 hf => ?_)
  refine gf_X9_237 S hK hP hx4 dX9_leaner_17 hf (fun x5 hf => ?_)
  refine r_callS (As := [.int x5]) (rest := [.int p1]) S hK hE hst hP hS (cw_X9_240 ht ⟨Nat.le_of_ble_eq_true rfl, Nat.le_of_ble_eq_true rfl⟩) rfl hl.1 rfl (Nat.le_of_ble_eq_true rfl) dX9_leaner_20 z2 (fun _ _ h => c_X9_lowBits hG  h) hf (fun x6 M H locs hP hS bx6 hf => ?_)
  refine lv_iconst (v := (-1)) hx hb dX9_leaner_23 (by decide) ?_
  refine lv_ixor hx hb dX9_leaner_24 ?_
  refine lv_iand hx hb dX9_leaner_25 ?_
  refine r_if_eq (tgt := 32) S dX9_leaner_26 (by decide) hf (fun hf => ?_) (fun hf => ?_)
  · refine lv_iload_n hx hb dX9_leaner_32 rfl (lv_at hl 3 rfl) ?_
    refine lv_aload hx hb dX9_leaner_33 (lv_at hl 0 rfl) ?_
    refine gf_X9_243 S hK hP hx2 dX9_leaner_35 hf (fun x7 hf => ?_)
    refine r_callS (As := [.int x7]) (rest := [.int p2]) S hK hE hst hP hS (cw_X9_240 ht ⟨Nat.le_of_ble_eq_true rfl, Nat.le_of_ble_eq_true rfl⟩) rfl hl.1 rfl (Nat.le_of_ble_eq_true rfl) dX9_leaner_38 z2 (fun _ _ h => c_X9_lowBits hG  h) hf (fun x8 M H locs hP hS bx8 hf => ?_)
    refine lv_iconst (v := (-1)) hx hb dX9_leaner_41 (by decide) ?_
    refine lv_ixor hx hb dX9_leaner_42 ?_
    refine lv_iand hx hb dX9_leaner_43 ?_
    refine r_if_eq (tgt := 50) S dX9_leaner_44 (by decide) hf (fun hf => ?_) (fun hf => ?_)
    · refine lv_iload_n hx hb dX9_leaner_50 rfl (lv_at hl 4 rfl) ?_
      refine lv_iconst (v := 0) hx hb dX9_leaner_51 (by decide) ?_
      refine lv_bipush (v := 28) hx hb dX9_leaner_52 (by decide) ?_
      refine r_callS (As := [.int p3, .int 0, .int 28]) (rest := []) S hK hE hst hP hS (cw_X9_44 ht ⟨Nat.le_of_ble_eq_true rfl, Nat.le_of_ble_eq_true rfl⟩) rfl hl.1 rfl (Nat.le_of_ble_eq_true rfl) dX9_leaner_54 z2 (fun _ _ h => c_X9_within hG  h) hf (fun x9 M H locs hP hS bx9 hf => ?_)
      refine r_if_ne (tgt := 63) S dX9_leaner_57 (by decide) hf (fun hf => ?_) (fun hf => ?_)
      · refine lv_aload hx hb dX9_leaner_63 (lv_at hl 0 rfl) ?_
        refine lv_iload_n hx hb dX9_leaner_65 rfl (lv_at hl 2 rfl) ?_
        refine lv_iload_n hx hb dX9_leaner_66 rfl (lv_at hl 3 rfl) ?_
        refine lv_iload_n hx hb dX9_leaner_67 rfl (lv_at hl 4 rfl) ?_
        refine r_callV (As := [.int p1, .int p2, .int p3]) (rest := []) S hK hE hst hP hS hx2 (by decide) rfl (cw_X9_248 ht ⟨Nat.le_of_ble_eq_true rfl, Nat.le_of_ble_eq_true rfl⟩) rfl hl.1 rfl (Nat.le_of_ble_eq_true rfl) dX9_leaner_68 z2 (fun _ _ h => c_X1_addLeaner hG  hx2 h) hf (fun x10 M H locs hP hS bx10 hf => ?_)
        exact hret _ _ _ _ _ _ dX9_leaner_71 hP hS rfl hf
      · refine lv_ldc (v := (-1000000001)) hx hb hown (ht _ k_405) dX9_leaner_60 ?_
        exact hret _ _ _ _ _ _ dX9_leaner_62 hP hS rfl hf
    · refine lv_ldc (v := (-1000000001)) hx hb hown (ht _ k_405) dX9_leaner_47 ?_
      exact hret _ _ _ _ _ _ dX9_leaner_49 hP hS rfl hf
  · refine lv_ldc (v := (-1000000001)) hx hb hown (ht _ k_405) dX9_leaner_29 ?_
    exact hret _ _ _ _ _ _ dX9_leaner_31 hP hS rfl hf
theorem cw_X9_251 {R : Room} {s : State} {args : Array Value} (ht : ∀ w ∈ Tw, w.before args s = true) (hR : rm_X1_fallen.frames + 1 ≤ R.frames ∧ 8 + (5 + 11) + rm_X1_fallen.locals ≤ R.locals) : CallW R s args RX9 RX1 251 yX1_fallen cX1_fallen 5 (some .int) (ws_of yX1_fallen cX1_fallen 5 (some .int)) rm_X1_fallen 0 0 1 := cw_V 1 ht k_901 k_902 k_903 k_69 k_904 (by decide +kernel) rfl rfl hR
def f_X9_falls (o : Nat) (p1 : Int32) (M : Mem) : Option (Int32 × Mem) :=
  bd (f_X9_lowBits 12 M) fun x1 M =>
  bd (f_X9_within p1 0 x1 M) fun x2 M =>
  if x2 = 0 then
    some ((-1000000001), M)
  else
    vv (grf G1 o 0) fun x3 =>
    vv (grf G1 x3 4) fun x4 =>
    bd (f_X1_fallen x4 p1 M) fun x5 M =>
    some (x5, M)
def rm_X9_falls : Room := { frames := 2, cells := 0, slots := 0, locals := 44 }
set_option maxHeartbeats 4000000 in
set_option maxRecDepth 100000 in
theorem c_X9_falls {l : Launch} {D : va_G} {K : Ks} {ad : Nat → Nat} {A : Nat → Prop} {tC tA tP : Nat} {kK kV : Nat → Nat} (hG : Gok G1 ad A) {o : Nat} {p1 : Int32} (h0 : gcl G1 o = 9) {M : Mem} {r : Int32} {M' : Mem} (hf : f_X9_falls o p1 M = some (r, M')) : Ct l (E1 A tC tA tP kK kV) D K G1 ad A yX9_falls (ws_of yX9_falls cX9_falls 2 (some .int)) rm_X9_falls .int [.ref (ad o), .int p1] M r M' := by
  have hst : Est A (E1 A tC tA tP kK kV) := est1
  refine Ct.ofW (by decide) (Nat.le_of_ble_eq_true rfl) ?_
  intro p e s m args below meth c Q H locs ls S hK hE hP hS hl hret
  have hx := S.1
  have hb := S.2.1
  have hown := S.2.2.2.1
  have ht := S.2.2.2.2
  have hl : lv_has ls 2 [(0, .ref (ad o)), (1, .int p1)] := hl
  unfold f_X9_falls at hf
  refine lv_iload_n hx hb dX9_falls_0 rfl (lv_at hl 1 rfl) ?_
  refine lv_iconst (v := 0) hx hb dX9_falls_1 (by decide) ?_
  refine lv_bipush (v := 12) hx hb dX9_falls_2 (by decide) ?_
  refine r_callS (As := [.int 12]) (rest := [.int 0, .int p1]) S hK hE hst hP hS (cw_X9_240 ht ⟨Nat.le_of_ble_eq_true rfl, Nat.le_of_ble_eq_true rfl⟩) rfl hl.1 rfl (Nat.le_of_ble_eq_true rfl) dX9_falls_4 z2 (fun _ _ h => c_X9_lowBits hG  h) hf (fun x1 M H locs hP hS bx1 hf => ?_)
  refine r_callS (As := [.int p1, .int 0, .int x1]) (rest := []) S hK hE hst hP hS (cw_X9_44 ht ⟨Nat.le_of_ble_eq_true rfl, Nat.le_of_ble_eq_true rfl⟩) rfl hl.1 rfl (Nat.le_of_ble_eq_true rfl) dX9_falls_7 z2 (fun _ _ h => c_X9_within hG  h) hf (fun x2 M H locs hP hS bx2 hf => ?_)
  refine r_if_ne (tgt := 16) S dX9_falls_10 (by decide) hf (fun hf => ?_) (fun hf => ?_)
  · refine lv_aload_n hx hb dX9_falls_16 rfl (lv_at hl 0 rfl) ?_
    refine gf_X9_10 S hK hP h0 dX9_falls_17 hf (fun x3 hx3 hf => ?_)
    refine gf_X9_233 S hK hP hx3 dX9_falls_20 hf (fun x4 hx4 hf => ?_)
    refine lv_iload_n hx hb dX9_falls_23 rfl (lv_at hl 1 rfl) ?_
    refine r_callV (As := [.int p1]) (rest := []) S hK hE hst hP hS hx4 (by decide) rfl (cw_X9_251 ht ⟨Nat.le_of_ble_eq_true rfl, Nat.le_of_ble_eq_true rfl⟩) rfl hl.1 rfl (Nat.le_of_ble_eq_true rfl) dX9_falls_24 z2 (fun _ _ h => c_X1_fallen hG  hx4 h) hf (fun x5 M H locs hP hS bx5 hf => ?_)
    exact hret _ _ _ _ _ _ dX9_falls_27 hP hS rfl hf
  · refine lv_ldc (v := (-1000000001)) hx hb hown (ht _ k_405) dX9_falls_13 ?_
    exact hret _ _ _ _ _ _ dX9_falls_15 hP hS rfl hf
def f_X9_left (o : Nat) (p1 : Int32) (M : Mem) : Option (Int32 × Mem) :=
  bd (f_X9_lowBits 12 M) fun x1 M =>
  bd (f_X9_within p1 0 x1 M) fun x2 M =>
  if x2 = 0 then
    some ((-1000000001), M)
  else
    vv (grf G1 o 0) fun x3 =>
    vv (grf G1 x3 4) fun x4 =>
    vv (M x4 0) fun x5 =>
    bd (f_X9_lowBits x5 M) fun x6 M =>
    vv (grf G1 o 0) fun x7 =>
    vv (grf G1 x7 4) fun x8 =>
    bd (f_X1_fallen x8 p1 M) fun x9 M =>
    some ((x6 &&& (x9 ^^^ (-1))), M)
def rm_X9_left : Room := { frames := 2, cells := 0, slots := 0, locals := 44 }
set_option maxHeartbeats 4000000 in
set_option maxRecDepth 100000 in
theorem c_X9_left {l : Launch} {D : va_G} {K : Ks} {ad : Nat → Nat} {A : Nat → Prop} {tC tA tP : Nat} {kK kV : Nat → Nat} (hG : Gok G1 ad A) {o : Nat} {p1 : Int32} (h0 : gcl G1 o = 9) {M : Mem} {r : Int32} {M' : Mem} (hf : f_X9_left o p1 M = some (r, M')) : Ct l (E1 A tC tA tP kK kV) D K G1 ad A yX9_left (ws_of yX9_left cX9_left 2 (some .int)) rm_X9_left .int [.ref (ad o), .int p1] M r M' := by
  have hst : Est A (E1 A tC tA tP kK kV) := est1
  refine Ct.ofW (by decide) (Nat.le_of_ble_eq_true rfl) ?_
  intro p e s m args below meth c Q H locs ls S hK hE hP hS hl hret
  have hx := S.1
  have hb := S.2.1
  have hown := S.2.2.2.1
  have ht := S.2.2.2.2
  have hl : lv_has ls 2 [(0, .ref (ad o)), (1, .int p1)] := hl
  unfold f_X9_left at hf
  refine lv_iload_n hx hb dX9_left_0 rfl (lv_at hl 1 rfl) ?_
  refine lv_iconst (v := 0) hx hb dX9_left_1 (by decide) ?_
  refine lv_bipush (v := 12) hx hb dX9_left_2 (by decide) ?_
  refine r_callS (As := [.int 12]) (rest := [.int 0, .int p1]) S hK hE hst hP hS (cw_X9_240 ht ⟨Nat.le_of_ble_eq_true rfl, Nat.le_of_ble_eq_true rfl⟩) rfl hl.1 rfl (Nat.le_of_ble_eq_true rfl) dX9_left_4 z2 (fun _ _ h => c_X9_lowBits hG  h) hf (fun x1 M H locs hP hS bx1 hf => ?_)
  refine r_callS (As := [.int p1, .int 0, .int x1]) (rest := []) S hK hE hst hP hS (cw_X9_44 ht ⟨Nat.le_of_ble_eq_true rfl, Nat.le_of_ble_eq_true rfl⟩) rfl hl.1 rfl (Nat.le_of_ble_eq_true rfl) dX9_left_7 z2 (fun _ _ h => c_X9_within hG  h) hf (fun x2 M H locs hP hS bx2 hf => ?_)
  refine r_if_ne (tgt := 16) S dX9_left_10 (by decide) hf (fun hf => ?_) (fun hf => ?_)
  · refine lv_aload_n hx hb dX9_left_16 rfl (lv_at hl 0 rfl) ?_
    refine gf_X9_10 S hK hP h0 dX9_left_17 hf (fun x3 hx3 hf => ?_)
    refine gf_X9_233 S hK hP hx3 dX9_left_20 hf (fun x4 hx4 hf => ?_)
    refine gf_X9_243 S hK hP hx4 dX9_left_23 hf (fun x5 hf => ?_)
    refine r_callS (As := [.int x5]) (rest := []) S hK hE hst hP hS (cw_X9_240 ht ⟨Nat.le_of_ble_eq_true rfl, Nat.le_of_ble_eq_true rfl⟩) rfl hl.1 rfl (Nat.le_of_ble_eq_true rfl) dX9_left_26 z2 (fun _ _ h => c_X9_lowBits hG  h) hf (fun x6 M H locs hP hS bx6 hf => ?_)
    refine lv_aload_n hx hb dX9_left_29 rfl (lv_at hl 0 rfl) ?_
    refine gf_X9_10 S hK hP h0 dX9_left_30 hf (fun x7 hx7 hf => ?_)
    refine gf_X9_233 S hK hP hx7 dX9_left_33 hf (fun x8 hx8 hf => ?_)
    refine lv_iload_n hx hb dX9_left_36 rfl (lv_at hl 1 rfl) ?_
    refine r_callV (As := [.int p1]) (rest := [.int x6]) S hK hE hst hP hS hx8 (by decide) rfl (cw_X9_251 ht ⟨Nat.le_of_ble_eq_true rfl, Nat.le_of_ble_eq_true rfl⟩) rfl hl.1 rfl (Nat.le_of_ble_eq_true rfl) dX9_left_37 z2 (fun _ _ h => c_X1_fallen hG  hx8 h) hf (fun x9 M H locs hP hS bx9 hf => ?_)
    refine lv_iconst (v := (-1)) hx hb dX9_left_40 (by decide) ?_
    refine lv_ixor hx hb dX9_left_41 ?_
    refine lv_iand hx hb dX9_left_42 ?_
    exact hret _ _ _ _ _ _ dX9_left_43 hP hS rfl hf
  · refine lv_ldc (v := (-1000000001)) hx hb hown (ht _ k_405) dX9_left_13 ?_
    exact hret _ _ _ _ _ _ dX9_left_15 hP hS rfl hf
theorem cw_X9_254 {R : Room} {s : State} {args : Array Value} (ht : ∀ w ∈ Tw, w.before args s = true) (hR : rm_J6_bitCount_0f7a4.frames + 1 ≤ R.frames ∧ 8 + (1 + 11) + rm_J6_bitCount_0f7a4.locals ≤ R.locals) : CallB R s args RX9 254 yJ6_bitCount_0f7a4 cJ6_bitCount_0f7a4 1 (some .int) (ws_of yJ6_bitCount_0f7a4 cJ6_bitCount_0f7a4 1 (some .int)) rm_J6_bitCount_0f7a4 0 0 1 ∧ (Cond.static yJ6_bitCount_0f7a4).before args s = true := cw_S 1 ht k_919 k_906 k_81 k_907 (by decide +kernel) rfl rfl hR
def f_X9_pillar (o : Nat) (M : Mem) : Option (Int32 × Mem) :=
  it3 (fun rc4 (v1 : Int32) (v2 : Int32) (v3 : Int32) M =>
    vv (grf G1 o 0) fun x5 =>
    vv (grf G1 x5 0) fun x6 =>
    vv (M x6 0) fun x7 =>
    if v3 < x7 then
      vv (grf G1 o 0) fun x8 =>
      vv (grf G1 x8 4) fun x9 =>
      bd (f_X1_fallen x9 ((1 : Int32) <<< (v3 &&& 31)) M) fun x10 M =>
      bd (f_J6_bitCount_0f7a4 x10 M) fun x11 M =>
      if v2 < x11 then
        rc4 v3 x11 (v3 + 1) M
      else
        rc4 v1 v2 (v3 + 1) M
    else
      some (v1, M)
  ) fuel (-1000000005) (-1) 0 M
def rm_X9_pillar : Room := { frames := 2, cells := 0, slots := 0, locals := 44 }
set_option maxHeartbeats 4000000 in
set_option maxRecDepth 100000 in
theorem c_X9_pillar {l : Launch} {D : va_G} {K : Ks} {ad : Nat → Nat} {A : Nat → Prop} {tC tA tP : Nat} {kK kV : Nat → Nat} (hG : Gok G1 ad A) {o : Nat} (h0 : gcl G1 o = 9) {M : Mem} {r : Int32} {M' : Mem} (hf : f_X9_pillar o M = some (r, M')) : Ct l (E1 A tC tA tP kK kV) D K G1 ad A yX9_pillar (ws_of yX9_pillar cX9_pillar 5 (some .int)) rm_X9_pillar .int [.ref (ad o)] M r M' := by
  have hst : Est A (E1 A tC tA tP kK kV) := est1
  refine Ct.ofW (by decide) (Nat.le_of_ble_eq_true rfl) ?_
  intro p e s m args below meth c Q H locs ls S hK hE hP hS hl hret
  have hx := S.1
  have hb := S.2.1
  have hown := S.2.2.2.1
  have ht := S.2.2.2.2
  have hl : lv_has ls 5 [(0, .ref (ad o))] := hl
  unfold f_X9_pillar at hf
  refine lv_ldc (v := (-1000000005)) hx hb hown (ht _ k_439) dX9_pillar_0 ?_
  refine lv_istore_n (lv' := [(1, .int (-1000000005)), (0, .ref (ad o))]) hx hb dX9_pillar_2 rfl hl (by decide) rfl (fun ls hl => ?_)
  refine lv_iconst (v := (-1)) hx hb dX9_pillar_3 (by decide) ?_
  refine lv_istore_n (lv' := [(2, .int (-1)), (1, .int (-1000000005)), (0, .ref (ad o))]) hx hb dX9_pillar_4 rfl hl (by decide) rfl (fun ls hl => ?_)
  refine lv_iconst (v := 0) hx hb dX9_pillar_5 (by decide) ?_
  refine lv_istore_n (lv' := [(3, .int 0), (2, .int (-1)), (1, .int (-1000000005)), (0, .ref (ad o))]) hx hb dX9_pillar_6 rfl hl (by decide) rfl (fun ls hl => ?_)
  obtain ⟨F4, hF4, hf⟩ := it3_g hf
  have L4 : ∀ (n : Nat) (v1 : Int32) (v2 : Int32) (v3 : Int32) (M : Mem) (H : Heap) (locs : List Loc) (ls : Array Slot), lv_has ls 5 [(0, .ref (ad o)), (1, .int v1), (2, .int v2), (3, .int v3)] → va_P D classes (gws K G1 ad M) H → va_S A s.heap H locs → it3 F4 n v1 v2 v3 M = some (r, M') → W p l e rm_X9_pillar s m args below meth c H locs 0 0 Q (F0 m 7 ls []) := by
    intro n
    induction n with
    | zero => intro v1 v2 v3 M H locs ls hl hP hS hf; exact nomatch hf
    | succ n ih4 =>
      intro v1 v2 v3 M H locs ls hl hP hS hf
      obtain ⟨rc4, hrc4, hf⟩ := it3_w hf
      rw [← hrc4] at ih4
      rw [hF4] at hf
      refine lv_iload_n hx hb dX9_pillar_7 rfl (lv_at hl 3 rfl) ?_
      refine lv_aload_n hx hb dX9_pillar_8 rfl (lv_at hl 0 rfl) ?_
      refine gf_X9_10 S hK hP h0 dX9_pillar_9 hf (fun x5 hx5 hf => ?_)
      refine gf_X9_49 S hK hP hx5 dX9_pillar_12 hf (fun x6 hx6 hf => ?_)
      refine gf_X9_237 S hK hP hx6 dX9_pillar_15 hf (fun x7 hf => ?_)
      refine r_icmp_ge (tgt := 56) S dX9_pillar_18 (by decide) hf (fun hf => ?_) (fun hf => ?_)
      · refine lv_iload_n hx hb dX9_pillar_56 rfl (lv_at hl 1 rfl) ?_
        exact hret _ _ _ _ _ _ dX9_pillar_57 hP hS rfl hf
      · refine lv_aload_n hx hb dX9_pillar_21 rfl (lv_at hl 0 rfl) ?_
        refine gf_X9_10 S hK hP h0 dX9_pillar_22 hf (fun x8 hx8 hf => ?_)
        refine gf_X9_233 S hK hP hx8 dX9_pillar_25 hf (fun x9 hx9 hf => ?_)
        refine lv_iconst (v := 1) hx hb dX9_pillar_28 (by decide) ?_
        refine lv_iload_n hx hb dX9_pillar_29 rfl (lv_at hl 3 rfl) ?_
        refine lv_ishl hx hb dX9_pillar_30 ?_
        refine r_callV (As := [.int ((1 : Int32) <<< (v3 &&& 31))]) (rest := []) S hK hE hst hP hS hx9 (by decide) rfl (cw_X9_251 ht ⟨Nat.le_of_ble_eq_true rfl, Nat.le_of_ble_eq_true rfl⟩) rfl hl.1 rfl (Nat.le_of_ble_eq_true rfl) dX9_pillar_31 z2 (fun _ _ h => c_X1_fallen hG  hx9 h) hf (fun x10 M H locs hP hS bx10 hf => ?_)
        refine r_callS (As := [.int x10]) (rest := []) S hK hE hst hP hS (cw_X9_254 ht ⟨Nat.le_of_ble_eq_true rfl, Nat.le_of_ble_eq_true rfl⟩) rfl hl.1 rfl (Nat.le_of_ble_eq_true rfl) dX9_pillar_34 z2 (fun _ _ h => c_J6_bitCount_0f7a4 hG  h) hf (fun x11 M H locs hP hS bx11 hf => ?_)
        refine lv_istore (lv' := [(4, .int x11), (0, .ref (ad o)), (1, .int v1), (2, .int v2), (3, .int v3)]) hx hb dX9_pillar_37 hl (by decide) rfl (fun ls hl => ?_)
        refine lv_iload hx hb dX9_pillar_39 (lv_at hl 0 rfl) ?_
        refine lv_iload_n hx hb dX9_pillar_41 rfl (lv_at hl 3 rfl) ?_
        refine r_icmp_le (tgt := 50) S dX9_pillar_42 (by decide) hf (fun hf => ?_) (fun hf => ?_)
        · refine lv_iinc (v := (v3 + 1)) (lv' := [(3, .int (v3 + 1)), (4, .int x11), (0, .ref (ad o)), (1, .int v1), (2, .int v2)]) hx hb dX9_pillar_50 hl (k := 4) rfl rfl (by decide) rfl (fun ls hl => ?_)
          refine lv_goto (tgt := 7) hx hb dX9_pillar_53 (by decide) ?_
          exact ih4 v1 v2 (v3 + 1) M H locs ls (lv_sub hl [2, 3, 4, 0] rfl) hP hS hf
        · refine lv_iload hx hb dX9_pillar_45 (lv_at hl 0 rfl) ?_
          refine lv_istore_n (lv' := [(2, .int x11), (4, .int x11), (0, .ref (ad o)), (1, .int v1), (3, .int v3)]) hx hb dX9_pillar_47 rfl hl (by decide) rfl (fun ls hl => ?_)
          refine lv_iload_n hx hb dX9_pillar_48 rfl (lv_at hl 4 rfl) ?_
          refine lv_istore_n (lv' := [(1, .int v3), (2, .int x11), (4, .int x11), (0, .ref (ad o)), (3, .int v3)]) hx hb dX9_pillar_49 rfl hl (by decide) rfl (fun ls hl => ?_)
          refine lv_iinc (v := (v3 + 1)) (lv' := [(3, .int (v3 + 1)), (1, .int v3), (2, .int x11), (4, .int x11), (0, .ref (ad o))]) hx hb dX9_pillar_50 hl (k := 4) rfl rfl (by decide) rfl (fun ls hl => ?_)
          refine lv_goto (tgt := 7) hx hb dX9_pillar_53 (by decide) ?_
          exact ih4 v3 x11 (v3 + 1) M H locs ls (lv_sub hl [4, 1, 2, 0] rfl) hP hS hf
  exact L4 _ (-1000000005) (-1) 0 M H locs ls (lv_sub hl [3, 2, 1, 0] rfl) hP hS hf
theorem cw_X9_259 {R : Room} {s : State} {args : Array Value} (ht : ∀ w ∈ Tw, w.before args s = true) (hR : rm_X1_addSource.frames + 1 ≤ R.frames ∧ 8 + (2 + 11) + rm_X1_addSource.locals ≤ R.locals) : CallW R s args RX9 RX1 259 yX1_addSource cX1_addSource 2 (some .int) (ws_of yX1_addSource cX1_addSource 2 (some .int)) rm_X1_addSource 0 0 1 := cw_V 1 ht k_924 k_925 k_926 k_69 k_927 (by decide +kernel) rfl rfl hR
def f_X9_source (o : Nat) (p1 : Int32) (M : Mem) : Option (Int32 × Mem) :=
  bd (f_X9_lowBits 16 M) fun x1 M =>
  bd (f_X9_within p1 0 x1 M) fun x2 M =>
  if x2 = 0 then
    some ((-1000000001), M)
  else
    vv (grf G1 o 0) fun x3 =>
    vv (grf G1 x3 4) fun x4 =>
    bd (f_X1_addSource x4 p1 M) fun x5 M =>
    some (x5, M)
def rm_X9_source : Room := { frames := 1, cells := 0, slots := 0, locals := 22 }
set_option maxHeartbeats 4000000 in
set_option maxRecDepth 100000 in
theorem c_X9_source {l : Launch} {D : va_G} {K : Ks} {ad : Nat → Nat} {A : Nat → Prop} {tC tA tP : Nat} {kK kV : Nat → Nat} (hG : Gok G1 ad A) {o : Nat} {p1 : Int32} (h0 : gcl G1 o = 9) {M : Mem} {r : Int32} {M' : Mem} (hf : f_X9_source o p1 M = some (r, M')) : Ct l (E1 A tC tA tP kK kV) D K G1 ad A yX9_source (ws_of yX9_source cX9_source 2 (some .int)) rm_X9_source .int [.ref (ad o), .int p1] M r M' := by
  have hst : Est A (E1 A tC tA tP kK kV) := est1
  refine Ct.ofW (by decide) (Nat.le_of_ble_eq_true rfl) ?_
  intro p e s m args below meth c Q H locs ls S hK hE hP hS hl hret
  have hx := S.1
  have hb := S.2.1
  have hown := S.2.2.2.1
  have ht := S.2.2.2.2
  have hl : lv_has ls 2 [(0, .ref (ad o)), (1, .int p1)] := hl
  unfold f_X9_source at hf
  refine lv_iload_n hx hb dX9_source_0 rfl (lv_at hl 1 rfl) ?_
  refine lv_iconst (v := 0) hx hb dX9_source_1 (by decide) ?_
  refine lv_bipush (v := 16) hx hb dX9_source_2 (by decide) ?_
  refine r_callS (As := [.int 16]) (rest := [.int 0, .int p1]) S hK hE hst hP hS (cw_X9_240 ht ⟨Nat.le_of_ble_eq_true rfl, Nat.le_of_ble_eq_true rfl⟩) rfl hl.1 rfl (Nat.le_of_ble_eq_true rfl) dX9_source_4 z2 (fun _ _ h => c_X9_lowBits hG  h) hf (fun x1 M H locs hP hS bx1 hf => ?_)
  refine r_callS (As := [.int p1, .int 0, .int x1]) (rest := []) S hK hE hst hP hS (cw_X9_44 ht ⟨Nat.le_of_ble_eq_true rfl, Nat.le_of_ble_eq_true rfl⟩) rfl hl.1 rfl (Nat.le_of_ble_eq_true rfl) dX9_source_7 z2 (fun _ _ h => c_X9_within hG  h) hf (fun x2 M H locs hP hS bx2 hf => ?_)
  refine r_if_ne (tgt := 16) S dX9_source_10 (by decide) hf (fun hf => ?_) (fun hf => ?_)
  · refine lv_aload_n hx hb dX9_source_16 rfl (lv_at hl 0 rfl) ?_
    refine gf_X9_10 S hK hP h0 dX9_source_17 hf (fun x3 hx3 hf => ?_)
    refine gf_X9_233 S hK hP hx3 dX9_source_20 hf (fun x4 hx4 hf => ?_)
    refine lv_iload_n hx hb dX9_source_23 rfl (lv_at hl 1 rfl) ?_
    refine r_callV (As := [.int p1]) (rest := []) S hK hE hst hP hS hx4 (by decide) rfl (cw_X9_259 ht ⟨Nat.le_of_ble_eq_true rfl, Nat.le_of_ble_eq_true rfl⟩) rfl hl.1 rfl (Nat.le_of_ble_eq_true rfl) dX9_source_24 z2 (fun _ _ h => c_X1_addSource hG  hx4 h) hf (fun x5 M H locs hP hS bx5 hf => ?_)
    exact hret _ _ _ _ _ _ dX9_source_27 hP hS rfl hf
  · refine lv_ldc (v := (-1000000001)) hx hb hown (ht _ k_405) dX9_source_13 ?_
    exact hret _ _ _ _ _ _ dX9_source_15 hP hS rfl hf
theorem cw_X9_262 {R : Room} {s : State} {args : Array Value} (ht : ∀ w ∈ Tw, w.before args s = true) (hR : rm_X1_bestSource.frames + 1 ≤ R.frames ∧ 8 + (6 + 11) + rm_X1_bestSource.locals ≤ R.locals) : CallW R s args RX9 RX1 262 yX1_bestSource cX1_bestSource 6 (some .int) (ws_of yX1_bestSource cX1_bestSource 6 (some .int)) rm_X1_bestSource 0 0 1 := cw_V 1 ht k_932 k_933 k_934 k_69 k_935 (by decide +kernel) rfl rfl hR
def f_X9_next (o : Nat) (p1 : Int32) (M : Mem) : Option (Int32 × Mem) :=
  bd (f_X9_lowBits 8 M) fun x1 M =>
  bd (f_X9_within p1 1 x1 M) fun x2 M =>
  if x2 = 0 then
    some ((-1000000001), M)
  else
    vv (grf G1 o 0) fun x3 =>
    vv (grf G1 x3 4) fun x4 =>
    bd (f_X1_bestSource x4 p1 M) fun x5 M =>
    some (x5, M)
def rm_X9_next : Room := { frames := 3, cells := 0, slots := 0, locals := 109 }
set_option maxHeartbeats 4000000 in
set_option maxRecDepth 100000 in
theorem c_X9_next {l : Launch} {D : va_G} {K : Ks} {ad : Nat → Nat} {A : Nat → Prop} {tC tA tP : Nat} {kK kV : Nat → Nat} (hG : Gok G1 ad A) {o : Nat} {p1 : Int32} (h0 : gcl G1 o = 9) {M : Mem} {r : Int32} {M' : Mem} (hf : f_X9_next o p1 M = some (r, M')) : Ct l (E1 A tC tA tP kK kV) D K G1 ad A yX9_next (ws_of yX9_next cX9_next 2 (some .int)) rm_X9_next .int [.ref (ad o), .int p1] M r M' := by
  have hst : Est A (E1 A tC tA tP kK kV) := est1
  refine Ct.ofW (by decide) (Nat.le_of_ble_eq_true rfl) ?_
  intro p e s m args below meth c Q H locs ls S hK hE hP hS hl hret
  have hx := S.1
  have hb := S.2.1
  have hown := S.2.2.2.1
  have ht := S.2.2.2.2
  have hl : lv_has ls 2 [(0, .ref (ad o)), (1, .int p1)] := hl
  unfold f_X9_next at hf
  refine lv_iload_n hx hb dX9_next_0 rfl (lv_at hl 1 rfl) ?_
  refine lv_iconst (v := 1) hx hb dX9_next_1 (by decide) ?_
  refine lv_bipush (v := 8) hx hb dX9_next_2 (by decide) ?_
  refine r_callS (As := [.int 8]) (rest := [.int 1, .int p1]) S hK hE hst hP hS (cw_X9_240 ht ⟨Nat.le_of_ble_eq_true rfl, Nat.le_of_ble_eq_true rfl⟩) rfl hl.1 rfl (Nat.le_of_ble_eq_true rfl) dX9_next_4 z2 (fun _ _ h => c_X9_lowBits hG  h) hf (fun x1 M H locs hP hS bx1 hf => ?_)
  refine r_callS (As := [.int p1, .int 1, .int x1]) (rest := []) S hK hE hst hP hS (cw_X9_44 ht ⟨Nat.le_of_ble_eq_true rfl, Nat.le_of_ble_eq_true rfl⟩) rfl hl.1 rfl (Nat.le_of_ble_eq_true rfl) dX9_next_7 z2 (fun _ _ h => c_X9_within hG  h) hf (fun x2 M H locs hP hS bx2 hf => ?_)
  refine r_if_ne (tgt := 16) S dX9_next_10 (by decide) hf (fun hf => ?_) (fun hf => ?_)
  · refine lv_aload_n hx hb dX9_next_16 rfl (lv_at hl 0 rfl) ?_
    refine gf_X9_10 S hK hP h0 dX9_next_17 hf (fun x3 hx3 hf => ?_)
    refine gf_X9_233 S hK hP hx3 dX9_next_20 hf (fun x4 hx4 hf => ?_)
    refine lv_iload_n hx hb dX9_next_23 rfl (lv_at hl 1 rfl) ?_
    refine r_callV (As := [.int p1]) (rest := []) S hK hE hst hP hS hx4 (by decide) rfl (cw_X9_262 ht ⟨Nat.le_of_ble_eq_true rfl, Nat.le_of_ble_eq_true rfl⟩) rfl hl.1 rfl (Nat.le_of_ble_eq_true rfl) dX9_next_24 z2 (fun _ _ h => c_X1_bestSource hG  hx4 h) hf (fun x5 M H locs hP hS bx5 hf => ?_)
    exact hret _ _ _ _ _ _ dX9_next_27 hP hS rfl hf
  · refine lv_ldc (v := (-1000000001)) hx hb hown (ht _ k_405) dX9_next_13 ?_
    exact hret _ _ _ _ _ _ dX9_next_15 hP hS rfl hf
theorem cw_X9_268 {R : Room} {s : State} {args : Array Value} (ht : ∀ w ∈ Tw, w.before args s = true) (hR : rm_X1_agreeing.frames + 1 ≤ R.frames ∧ 8 + (7 + 11) + rm_X1_agreeing.locals ≤ R.locals) : CallW R s args RX9 RX1 268 yX1_agreeing cX1_agreeing 7 (some .int) (ws_of yX1_agreeing cX1_agreeing 7 (some .int)) rm_X1_agreeing 0 0 3 := cw_V 3 ht k_950 k_942 k_943 k_69 k_944 (by decide +kernel) rfl rfl hR
section
variable {p : Program} {l : Launch} {e : Env} {R : Room} {s : State} {m : MethodId} {args : Array Value} {below : List Frame} {meth : Method} {c : Code} {H : Heap} {locs : List Loc} {cells slots : Nat} {Q : State → Prop} {cc : ByteArray} {pc : Nat} {ls : Array Slot} {rest : List Value} {nL : Nat} {D : va_G} {K : Ks} {ad : Nat → Nat} {A : Nat → Prop} {M : Mem} {β : Type} {z : β}
theorem gf_X9_265 (S : CallFix p m c cc nL s args Tw RX9) (hK : va_K D classes (gty K) s) (hP : va_P D classes (gws K G1 ad M) H) {a : Nat} {kk : Int32 → Option β} (ha : gcl G1 a = 1) (hdg : decode cc pc = .ok (.getfield 265, 3)) (hf : vv (M a 4) kk = some z) (w : ∀ x, kk x = some z → W p l e R s m args below meth c H locs cells slots Q (F0 m (pc + 3) ls (.int x :: rest))) : W p l e R s m args below meth c H locs cells slots Q (F0 m pc ls (.ref (ad a) :: rest)) := r_geti S hK hP (T := TX1) inX1 rfl (by decide) (by decide) ha (sf_X1_4 ha) k_221 hdg hf w
end
def f_X9_heard (o : Nat) (p1 : Int32) (p2 : Int32) (p3 : Int32) (M : Mem) : Option (Int32 × Mem) :=
  bd (f_X9_lowBits 8 M) fun x1 M =>
  bd (f_X9_within p1 0 x1 M) fun x2 M =>
  if x2 = 0 then
    some ((-1000000001), M)
  else
    vv (grf G1 o 0) fun x3 =>
    vv (grf G1 x3 4) fun x4 =>
    vv (M x4 4) fun x5 =>
    bd (f_X9_within p2 0 (x5 - 1) M) fun x6 M =>
    if x6 = 0 then
      some ((-1000000001), M)
    else
      bd (f_X9_within p3 0 3 M) fun x7 M =>
      if x7 = 0 then
        some ((-1000000001), M)
      else
        vv (grf G1 o 0) fun x8 =>
        vv (grf G1 x8 4) fun x9 =>
        bd (f_X1_agreeing x9 p1 p2 p3 M) fun x10 M =>
        some (x10, M)
def rm_X9_heard : Room := { frames := 1, cells := 0, slots := 0, locals := 26 }
set_option maxHeartbeats 4000000 in
set_option maxRecDepth 100000 in
theorem c_X9_heard {l : Launch} {D : va_G} {K : Ks} {ad : Nat → Nat} {A : Nat → Prop} {tC tA tP : Nat} {kK kV : Nat → Nat} (hG : Gok G1 ad A) {o : Nat} {p1 : Int32} {p2 : Int32} {p3 : Int32} (h0 : gcl G1 o = 9) {M : Mem} {r : Int32} {M' : Mem} (hf : f_X9_heard o p1 p2 p3 M = some (r, M')) : Ct l (E1 A tC tA tP kK kV) D K G1 ad A yX9_heard (ws_of yX9_heard cX9_heard 4 (some .int)) rm_X9_heard .int [.ref (ad o), .int p1, .int p2, .int p3] M r M' := by
  have hst : Est A (E1 A tC tA tP kK kV) := est1
  refine Ct.ofW (by decide) (Nat.le_of_ble_eq_true rfl) ?_
  intro p e s m args below meth c Q H locs ls S hK hE hP hS hl hret
  have hx := S.1
  have hb := S.2.1
  have hown := S.2.2.2.1
  have ht := S.2.2.2.2
  have hl : lv_has ls 4 [(0, .ref (ad o)), (1, .int p1), (2, .int p2), (3, .int p3)] := hl
  unfold f_X9_heard at hf
  refine lv_iload_n hx hb dX9_heard_0 rfl (lv_at hl 1 rfl) ?_
  refine lv_iconst (v := 0) hx hb dX9_heard_1 (by decide) ?_
  refine lv_bipush (v := 8) hx hb dX9_heard_2 (by decide) ?_
  refine r_callS (As := [.int 8]) (rest := [.int 0, .int p1]) S hK hE hst hP hS (cw_X9_240 ht ⟨Nat.le_of_ble_eq_true rfl, Nat.le_of_ble_eq_true rfl⟩) rfl hl.1 rfl (Nat.le_of_ble_eq_true rfl) dX9_heard_4 z2 (fun _ _ h => c_X9_lowBits hG  h) hf (fun x1 M H locs hP hS bx1 hf => ?_)
  refine r_callS (As := [.int p1, .int 0, .int x1]) (rest := []) S hK hE hst hP hS (cw_X9_44 ht ⟨Nat.le_of_ble_eq_true rfl, Nat.le_of_ble_eq_true rfl⟩) rfl hl.1 rfl (Nat.le_of_ble_eq_true rfl) dX9_heard_7 z2 (fun _ _ h => c_X9_within hG  h) hf (fun x2 M H locs hP hS bx2 hf => ?_)
  refine r_if_eq (tgt := 42) S dX9_heard_10 (by decide) hf (fun hf => ?_) (fun hf => ?_)
  · refine lv_ldc (v := (-1000000001)) hx hb hown (ht _ k_405) dX9_heard_42 ?_
    exact hret _ _ _ _ _ _ dX9_heard_44 hP hS rfl hf
  · refine lv_iload_n hx hb dX9_heard_13 rfl (lv_at hl 2 rfl) ?_
    refine lv_iconst (v := 0) hx hb dX9_heard_14 (by decide) ?_
    refine lv_aload_n hx hb dX9_heard_15 rfl (lv_at hl 0 rfl) ?_
    refine gf_X9_10 S hK hP h0 dX9_heard_16 hf (fun x3 hx3 hf => ?_)
    refine gf_X9_233 S hK hP hx3 dX9_heard_19 hf (fun x4 hx4 hf => ?_)
    refine gf_X9_265 S hK hP hx4 dX9_heard_22 hf (fun x5 hf => ?_)
    refine lv_iconst (v := 1) hx hb dX9_heard_25 (by decide) ?_
    refine lv_isub hx hb dX9_heard_26 ?_
    refine r_callS (As := [.int p2, .int 0, .int (x5 - 1)]) (rest := []) S hK hE hst hP hS (cw_X9_44 ht ⟨Nat.le_of_ble_eq_true rfl, Nat.le_of_ble_eq_true rfl⟩) rfl hl.1 rfl (Nat.le_of_ble_eq_true rfl) dX9_heard_27 z2 (fun _ _ h => c_X9_within hG  h) hf (fun x6 M H locs hP hS bx6 hf => ?_)
    refine r_if_eq (tgt := 42) S dX9_heard_30 (by decide) hf (fun hf => ?_) (fun hf => ?_)
    · refine lv_ldc (v := (-1000000001)) hx hb hown (ht _ k_405) dX9_heard_42 ?_
      exact hret _ _ _ _ _ _ dX9_heard_44 hP hS rfl hf
    · refine lv_iload_n hx hb dX9_heard_33 rfl (lv_at hl 3 rfl) ?_
      refine lv_iconst (v := 0) hx hb dX9_heard_34 (by decide) ?_
      refine lv_iconst (v := 3) hx hb dX9_heard_35 (by decide) ?_
      refine r_callS (As := [.int p3, .int 0, .int 3]) (rest := []) S hK hE hst hP hS (cw_X9_44 ht ⟨Nat.le_of_ble_eq_true rfl, Nat.le_of_ble_eq_true rfl⟩) rfl hl.1 rfl (Nat.le_of_ble_eq_true rfl) dX9_heard_36 z2 (fun _ _ h => c_X9_within hG  h) hf (fun x7 M H locs hP hS bx7 hf => ?_)
      refine r_if_ne (tgt := 45) S dX9_heard_39 (by decide) hf (fun hf => ?_) (fun hf => ?_)
      · refine lv_aload_n hx hb dX9_heard_45 rfl (lv_at hl 0 rfl) ?_
        refine gf_X9_10 S hK hP h0 dX9_heard_46 hf (fun x8 hx8 hf => ?_)
        refine gf_X9_233 S hK hP hx8 dX9_heard_49 hf (fun x9 hx9 hf => ?_)
        refine lv_iload_n hx hb dX9_heard_52 rfl (lv_at hl 1 rfl) ?_
        refine lv_iload_n hx hb dX9_heard_53 rfl (lv_at hl 2 rfl) ?_
        refine lv_iload_n hx hb dX9_heard_54 rfl (lv_at hl 3 rfl) ?_
        refine r_callV (As := [.int p1, .int p2, .int p3]) (rest := []) S hK hE hst hP hS hx9 (by decide) rfl (cw_X9_268 ht ⟨Nat.le_of_ble_eq_true rfl, Nat.le_of_ble_eq_true rfl⟩) rfl hl.1 rfl (Nat.le_of_ble_eq_true rfl) dX9_heard_55 z2 (fun _ _ h => c_X1_agreeing hG  hx9 h) hf (fun x10 M H locs hP hS bx10 hf => ?_)
        exact hret _ _ _ _ _ _ dX9_heard_58 hP hS rfl hf
      · refine lv_ldc (v := (-1000000001)) hx hb hown (ht _ k_405) dX9_heard_42 ?_
        exact hret _ _ _ _ _ _ dX9_heard_44 hP hS rfl hf
section
variable {p : Program} {l : Launch} {e : Env} {R : Room} {s : State} {m : MethodId} {args : Array Value} {below : List Frame} {meth : Method} {c : Code} {H : Heap} {locs : List Loc} {cells slots : Nat} {Q : State → Prop} {cc : ByteArray} {pc : Nat} {ls : Array Slot} {rest : List Value} {nL : Nat} {D : va_G} {K : Ks} {ad : Nat → Nat} {A : Nat → Prop} {M : Mem} {β : Type} {z : β}
theorem gf_X9_271 (S : CallFix p m c cc nL s args Tw RX9) (hK : va_K D classes (gty K) s) (hP : va_P D classes (gws K G1 ad M) H) {a : Nat} {kk : Int32 → Option β} (ha : gcl G1 a = 6) (hdg : decode cc pc = .ok (.getfield 271, 3)) (hf : vv (M a 8) kk = some z) (w : ∀ x, kk x = some z → W p l e R s m args below meth c H locs cells slots Q (F0 m (pc + 3) ls (.int x :: rest))) : W p l e R s m args below meth c H locs cells slots Q (F0 m pc ls (.ref (ad a) :: rest)) := r_geti S hK hP (T := TX6) inX6 rfl (by decide) (by decide) ha (sf_X6_8 ha) k_253 hdg hf w
end
section
variable {p : Program} {l : Launch} {e : Env} {R : Room} {s : State} {m : MethodId} {args : Array Value} {below : List Frame} {meth : Method} {c : Code} {H : Heap} {locs : List Loc} {cells slots : Nat} {Q : State → Prop} {cc : ByteArray} {pc : Nat} {ls : Array Slot} {rest : List Value} {nL : Nat} {D : va_G} {K : Ks} {ad : Nat → Nat} {A : Nat → Prop} {M : Mem} {β : Type} {z : β}
theorem pf_X9_271 (S : CallFix p m c cc nL s args Tw RX9) (hK : va_K D classes (gty K) s) (hG : Gok G1 ad A) (hP : va_P D classes (gws K G1 ad M) H) (hS : va_S A s.heap H locs) {a : Nat} {v : Int32} {kk : Mem → Option β} (ha : gcl G1 a = 6) (hdg : decode cc pc = .ok (.putfield 271, 3)) (hf : mm (up M a 8 v) kk = some z) (w : ∀ M H locs, va_P D classes (gws K G1 ad M) H → va_S A s.heap H locs → kk M = some z → W p l e R s m args below meth c H locs cells slots Q (F0 m (pc + 3) ls rest)) : W p l e R s m args below meth c H locs cells slots Q (F0 m pc ls (.int v :: .ref (ad a) :: rest)) := r_putt S hK hG hP hS (k := 8) (T := TX6) inX6 rfl (by decide) tyX6 tyX6_ok nmX6 (by decide) rfl rfl rfl ha (sf_X6_8 ha) k_253 hdg hf w
end
def f_X9_seed (o : Nat) (p1 : Int32) (M : Mem) : Option (Int32 × Mem) :=
  vv (grf G1 o 0) fun x1 =>
  vv (M x1 8) fun x2 =>
  vv (grf G1 o 0) fun x3 =>
  mm (up M x3 8 p1) fun M =>
  some (x2, M)
def rm_X9_seed : Room := { frames := 0, cells := 0, slots := 0, locals := 0 }
set_option maxHeartbeats 4000000 in
set_option maxRecDepth 100000 in
theorem c_X9_seed {l : Launch} {D : va_G} {K : Ks} {ad : Nat → Nat} {A : Nat → Prop} {tC tA tP : Nat} {kK kV : Nat → Nat} (hG : Gok G1 ad A) {o : Nat} {p1 : Int32} (h0 : gcl G1 o = 9) {M : Mem} {r : Int32} {M' : Mem} (hf : f_X9_seed o p1 M = some (r, M')) : Ct l (E1 A tC tA tP kK kV) D K G1 ad A yX9_seed (ws_of yX9_seed cX9_seed 3 (some .int)) rm_X9_seed .int [.ref (ad o), .int p1] M r M' := by
  have hst : Est A (E1 A tC tA tP kK kV) := est1
  refine Ct.ofW (by decide) (Nat.le_of_ble_eq_true rfl) ?_
  intro p e s m args below meth c Q H locs ls S hK hE hP hS hl hret
  have hx := S.1
  have hb := S.2.1
  have hown := S.2.2.2.1
  have ht := S.2.2.2.2
  have hl : lv_has ls 3 [(0, .ref (ad o)), (1, .int p1)] := hl
  unfold f_X9_seed at hf
  refine lv_aload_n hx hb dX9_seed_0 rfl (lv_at hl 0 rfl) ?_
  refine gf_X9_10 S hK hP h0 dX9_seed_1 hf (fun x1 hx1 hf => ?_)
  refine gf_X9_271 S hK hP hx1 dX9_seed_4 hf (fun x2 hf => ?_)
  refine lv_istore_n (lv' := [(2, .int x2), (0, .ref (ad o)), (1, .int p1)]) hx hb dX9_seed_7 rfl hl (by decide) rfl (fun ls hl => ?_)
  refine lv_aload_n hx hb dX9_seed_8 rfl (lv_at hl 1 rfl) ?_
  refine gf_X9_10 S hK hP h0 dX9_seed_9 hf (fun x3 hx3 hf => ?_)
  refine lv_iload_n hx hb dX9_seed_12 rfl (lv_at hl 2 rfl) ?_
  refine pf_X9_271 S hK hG hP hS hx3 dX9_seed_13 hf (fun M H locs hP hS hf => ?_)
  refine lv_iload_n hx hb dX9_seed_16 rfl (lv_at hl 0 rfl) ?_
  exact hret _ _ _ _ _ _ dX9_seed_17 hP hS rfl hf
def f_X9_areLandTables (p0 : Int32) (M : Mem) : Option (Int32 × Mem) :=
  bd (f_X9_within p0 2 12 M) fun x1 M =>
  some (x1, M)
def rm_X9_areLandTables : Room := { frames := 1, cells := 0, slots := 0, locals := 22 }
set_option maxHeartbeats 4000000 in
set_option maxRecDepth 100000 in
theorem c_X9_areLandTables {l : Launch} {D : va_G} {K : Ks} {ad : Nat → Nat} {A : Nat → Prop} {tC tA tP : Nat} {kK kV : Nat → Nat} (hG : Gok G1 ad A) {p0 : Int32}  {M : Mem} {r : Int32} {M' : Mem} (hf : f_X9_areLandTables p0 M = some (r, M')) : Ct l (E1 A tC tA tP kK kV) D K G1 ad A yX9_areLandTables (ws_of yX9_areLandTables cX9_areLandTables 1 (some .boolean)) rm_X9_areLandTables .boolean [.int p0] M r M' := by
  have hst : Est A (E1 A tC tA tP kK kV) := est1
  refine Ct.ofW (by decide) (Nat.le_of_ble_eq_true rfl) ?_
  intro p e s m args below meth c Q H locs ls S hK hE hP hS hl hret
  have hx := S.1
  have hb := S.2.1
  have hown := S.2.2.2.1
  have ht := S.2.2.2.2
  have hl : lv_has ls 1 [(0, .int p0)] := hl
  unfold f_X9_areLandTables at hf
  refine lv_iload_n hx hb dX9_areLandTables_0 rfl (lv_at hl 0 rfl) ?_
  refine lv_iconst (v := 2) hx hb dX9_areLandTables_1 (by decide) ?_
  refine lv_bipush (v := 12) hx hb dX9_areLandTables_2 (by decide) ?_
  refine r_callS (As := [.int p0, .int 2, .int 12]) (rest := []) S hK hE hst hP hS (cw_X9_44 ht ⟨Nat.le_of_ble_eq_true rfl, Nat.le_of_ble_eq_true rfl⟩) rfl hl.1 rfl (Nat.le_of_ble_eq_true rfl) dX9_areLandTables_4 z2 (fun _ _ h => c_X9_within hG  h) hf (fun x1 M H locs hP hS bx1 hf => ?_)
  exact hret _ _ _ _ _ _ dX9_areLandTables_7 hP hS bx1 hf
theorem cw_X9_274 {R : Room} {s : State} {args : Array Value} (ht : ∀ w ∈ Tw, w.before args s = true) (hR : rm_X9_areLandTables.frames + 1 ≤ R.frames ∧ 8 + (1 + 11) + rm_X9_areLandTables.locals ≤ R.locals) : CallB R s args RX9 274 yX9_areLandTables cX9_areLandTables 1 (some .boolean) (ws_of yX9_areLandTables cX9_areLandTables 1 (some .boolean)) rm_X9_areLandTables 0 0 1 ∧ (Cond.static yX9_areLandTables).before args s = true := cw_S 1 ht k_959 k_960 k_63 k_961 (by decide +kernel) rfl rfl hR
theorem cw_X9_277 {R : Room} {s : State} {args : Array Value} (ht : ∀ w ∈ Tw, w.before args s = true) (hR : rm_X6_drawLand.frames + 1 ≤ R.frames ∧ 8 + (6 + 11) + rm_X6_drawLand.locals ≤ R.locals) : CallW R s args RX9 RX6 277 yX6_drawLand cX6_drawLand 6 none (ws_of yX6_drawLand cX6_drawLand 6 none) rm_X6_drawLand 0 0 2 := cw_V 2 ht k_962 k_963 k_964 k_64 k_965 (by decide +kernel) rfl rfl hR
def f_X9_share (o : Nat) (p1 : Int32) (p2 : Int32) (p3 : Int32) (p4 : Int32) (M : Mem) : Option (Int32 × Mem) :=
  vv (p1 / 100) fun x1 =>
  vv (jr p1 100) fun x2 =>
  bd (f_X9_within x1 1 200 M) fun x3 M =>
  if x3 = 0 then
    some ((-1000000001), M)
  else
    bd (f_X9_areLandTables x2 M) fun x4 M =>
    if x4 = 0 then
      some ((-1000000001), M)
    else
      bd (f_X9_arePairs p2 M) fun x5 M =>
      if x5 = 0 then
        some ((-1000000001), M)
      else
        bd (f_X9_within p3 2 12 M) fun x6 M =>
        if x6 = 0 then
          some ((-1000000001), M)
        else
          bd (f_X9_arePlaces p4 M) fun x7 M =>
          if x7 = 0 then
            some ((-1000000001), M)
          else
            it2 (fun rc10 (v8 : Int32) (v9 : Int32) M =>
              if v9 < x1 then
                vv (grf G1 o 0) fun x11 =>
                bd (f_X6_drawLand x11 x2 p2 M) fun _ M =>
                vv (grf G1 o 0) fun x13 =>
                vv (grf G1 x13 9) fun x14 =>
                bd (f_X9_reach x14 x2 p4 p3 M) fun x15 M =>
                if x15 < 0 then
                  rc10 v8 (v9 + 1) M
                else
                  rc10 (v8 + 1) (v9 + 1) M
              else
                some (v8, M)
            ) fuel 0 0 M
def rm_X9_share : Room := { frames := 4, cells := 0, slots := 0, locals := 97 }
set_option maxHeartbeats 4000000 in
set_option maxRecDepth 100000 in
theorem c_X9_share {l : Launch} {D : va_G} {K : Ks} {ad : Nat → Nat} {A : Nat → Prop} {tC tA tP : Nat} {kK kV : Nat → Nat} (hG : Gok G1 ad A) {o : Nat} {p1 : Int32} {p2 : Int32} {p3 : Int32} {p4 : Int32} (h0 : gcl G1 o = 9) {M : Mem} {r : Int32} {M' : Mem} (hf : f_X9_share o p1 p2 p3 p4 M = some (r, M')) : Ct l (E1 A tC tA tP kK kV) D K G1 ad A yX9_share (ws_of yX9_share cX9_share 9 (some .int)) rm_X9_share .int [.ref (ad o), .int p1, .int p2, .int p3, .int p4] M r M' := by
  have hst : Est A (E1 A tC tA tP kK kV) := est1
  refine Ct.ofW (by decide) (Nat.le_of_ble_eq_true rfl) ?_
  intro p e s m args below meth c Q H locs ls S hK hE hP hS hl hret
  have hx := S.1
  have hb := S.2.1
  have hown := S.2.2.2.1
  have ht := S.2.2.2.2
  have hl : lv_has ls 9 [(0, .ref (ad o)), (1, .int p1), (2, .int p2), (3, .int p3), (4, .int p4)] := hl
  unfold f_X9_share at hf
  refine lv_iload_n hx hb dX9_share_0 rfl (lv_at hl 1 rfl) ?_
  refine lv_bipush (v := 100) hx hb dX9_share_1 (by decide) ?_
  refine lv_idiv hx hb dX9_share_3 (by decide) ?_
  refine r_vi hf (fun x1 hf => ?_)
  refine lv_istore (lv' := [(5, .int x1), (0, .ref (ad o)), (1, .int p1), (2, .int p2), (3, .int p3), (4, .int p4)]) hx hb dX9_share_4 hl (by decide) rfl (fun ls hl => ?_)
  refine lv_iload_n hx hb dX9_share_6 rfl (lv_at hl 2 rfl) ?_
  refine lv_bipush (v := 100) hx hb dX9_share_7 (by decide) ?_
  refine lv_irem hx hb dX9_share_9 (by decide) ?_
  refine r_vi hf (fun x2 hf => ?_)
  refine lv_istore (lv' := [(6, .int x2), (5, .int x1), (0, .ref (ad o)), (1, .int p1), (2, .int p2), (3, .int p3), (4, .int p4)]) hx hb dX9_share_10 hl (by decide) rfl (fun ls hl => ?_)
  refine lv_iload hx hb dX9_share_12 (lv_at hl 1 rfl) ?_
  refine lv_iconst (v := 1) hx hb dX9_share_14 (by decide) ?_
  refine lv_sipush (v := 200) hx hb dX9_share_15 (by decide) ?_
  refine r_callS (As := [.int x1, .int 1, .int 200]) (rest := []) S hK hE hst hP hS (cw_X9_44 ht ⟨Nat.le_of_ble_eq_true rfl, Nat.le_of_ble_eq_true rfl⟩) rfl hl.1 rfl (Nat.le_of_ble_eq_true rfl) dX9_share_18 z2 (fun _ _ h => c_X9_within hG  h) hf (fun x3 M H locs hP hS bx3 hf => ?_)
  refine r_if_eq (tgt := 39) S dX9_share_21 (by decide) hf (fun hf => ?_) (fun hf => ?_)
  · refine lv_ldc (v := (-1000000001)) hx hb hown (ht _ k_405) dX9_share_39 ?_
    exact hret _ _ _ _ _ _ dX9_share_41 hP hS rfl hf
  · refine lv_iload hx hb dX9_share_24 (lv_at hl 0 rfl) ?_
    refine r_callS (As := [.int x2]) (rest := []) S hK hE hst hP hS (cw_X9_274 ht ⟨Nat.le_of_ble_eq_true rfl, Nat.le_of_ble_eq_true rfl⟩) rfl hl.1 rfl (Nat.le_of_ble_eq_true rfl) dX9_share_26 z2 (fun _ _ h => c_X9_areLandTables hG  h) hf (fun x4 M H locs hP hS bx4 hf => ?_)
    refine r_if_eq (tgt := 39) S dX9_share_29 (by decide) hf (fun hf => ?_) (fun hf => ?_)
    · refine lv_ldc (v := (-1000000001)) hx hb hown (ht _ k_405) dX9_share_39 ?_
      exact hret _ _ _ _ _ _ dX9_share_41 hP hS rfl hf
    · refine lv_iload_n hx hb dX9_share_32 rfl (lv_at hl 4 rfl) ?_
      refine r_callS (As := [.int p2]) (rest := []) S hK hE hst hP hS (cw_X9_66 ht ⟨Nat.le_of_ble_eq_true rfl, Nat.le_of_ble_eq_true rfl⟩) rfl hl.1 rfl (Nat.le_of_ble_eq_true rfl) dX9_share_33 z2 (fun _ _ h => c_X9_arePairs hG  h) hf (fun x5 M H locs hP hS bx5 hf => ?_)
      refine r_if_ne (tgt := 42) S dX9_share_36 (by decide) hf (fun hf => ?_) (fun hf => ?_)
      · refine lv_iload_n hx hb dX9_share_42 rfl (lv_at hl 5 rfl) ?_
        refine lv_iconst (v := 2) hx hb dX9_share_43 (by decide) ?_
        refine lv_bipush (v := 12) hx hb dX9_share_44 (by decide) ?_
        refine r_callS (As := [.int p3, .int 2, .int 12]) (rest := []) S hK hE hst hP hS (cw_X9_44 ht ⟨Nat.le_of_ble_eq_true rfl, Nat.le_of_ble_eq_true rfl⟩) rfl hl.1 rfl (Nat.le_of_ble_eq_true rfl) dX9_share_46 z2 (fun _ _ h => c_X9_within hG  h) hf (fun x6 M H locs hP hS bx6 hf => ?_)
        refine r_if_eq (tgt := 60) S dX9_share_49 (by decide) hf (fun hf => ?_) (fun hf => ?_)
        · refine lv_ldc (v := (-1000000001)) hx hb hown (ht _ k_405) dX9_share_60 ?_
          exact hret _ _ _ _ _ _ dX9_share_62 hP hS rfl hf
        · refine lv_iload hx hb dX9_share_52 (lv_at hl 6 rfl) ?_
          refine r_callS (As := [.int p4]) (rest := []) S hK hE hst hP hS (cw_X9_170 ht ⟨Nat.le_of_ble_eq_true rfl, Nat.le_of_ble_eq_true rfl⟩) rfl hl.1 rfl (Nat.le_of_ble_eq_true rfl) dX9_share_54 z2 (fun _ _ h => c_X9_arePlaces hG  h) hf (fun x7 M H locs hP hS bx7 hf => ?_)
          refine r_if_ne (tgt := 63) S dX9_share_57 (by decide) hf (fun hf => ?_) (fun hf => ?_)
          · refine lv_iconst (v := 0) hx hb dX9_share_63 (by decide) ?_
            refine lv_istore (lv' := [(7, .int 0), (6, .int x2), (5, .int x1), (0, .ref (ad o)), (1, .int p1), (2, .int p2), (3, .int p3), (4, .int p4)]) hx hb dX9_share_64 hl (by decide) rfl (fun ls hl => ?_)
            refine lv_iconst (v := 0) hx hb dX9_share_66 (by decide) ?_
            refine lv_istore (lv' := [(8, .int 0), (7, .int 0), (6, .int x2), (5, .int x1), (0, .ref (ad o)), (1, .int p1), (2, .int p2), (3, .int p3), (4, .int p4)]) hx hb dX9_share_67 hl (by decide) rfl (fun ls hl => ?_)
            obtain ⟨F10, hF10, hf⟩ := it2_g hf
            have L10 : ∀ (n : Nat) (v8 : Int32) (v9 : Int32) (M : Mem) (H : Heap) (locs : List Loc) (ls : Array Slot), lv_has ls 9 [(0, .ref (ad o)), (2, .int p2), (3, .int p3), (4, .int p4), (5, .int x1), (6, .int x2), (7, .int v8), (8, .int v9)] → va_P D classes (gws K G1 ad M) H → va_S A s.heap H locs → it2 F10 n v8 v9 M = some (r, M') → W p l e rm_X9_share s m args below meth c H locs 0 0 Q (F0 m 69 ls []) := by
              intro n
              induction n with
              | zero => intro v8 v9 M H locs ls hl hP hS hf; exact nomatch hf
              | succ n ih10 =>
                intro v8 v9 M H locs ls hl hP hS hf
                obtain ⟨rc10, hrc10, hf⟩ := it2_w hf
                rw [← hrc10] at ih10
                rw [hF10] at hf
                refine lv_iload hx hb dX9_share_69 (lv_at hl 7 rfl) ?_
                refine lv_iload hx hb dX9_share_71 (lv_at hl 4 rfl) ?_
                refine r_icmp_ge (tgt := 113) S dX9_share_73 (by decide) hf (fun hf => ?_) (fun hf => ?_)
                · refine lv_iload hx hb dX9_share_113 (lv_at hl 6 rfl) ?_
                  exact hret _ _ _ _ _ _ dX9_share_115 hP hS rfl hf
                · refine lv_aload_n hx hb dX9_share_76 rfl (lv_at hl 0 rfl) ?_
                  refine gf_X9_10 S hK hP h0 dX9_share_77 hf (fun x11 hx11 hf => ?_)
                  refine lv_iload hx hb dX9_share_80 (lv_at hl 5 rfl) ?_
                  refine lv_iload_n hx hb dX9_share_82 rfl (lv_at hl 1 rfl) ?_
                  refine r_callVv (As := [.int x2, .int p2]) (rest := []) S hK hE hst hP hS hx11 (by decide) rfl (cw_X9_277 ht ⟨Nat.le_of_ble_eq_true rfl, Nat.le_of_ble_eq_true rfl⟩) rfl hl.1 rfl (Nat.le_of_ble_eq_true rfl) dX9_share_83 z2 (fun _ _ h => c_X6_drawLand hG  hx11 h) hf (fun x12 M H locs hP hS hf => ?_)
                  refine lv_aload_n hx hb dX9_share_86 rfl (lv_at hl 0 rfl) ?_
                  refine gf_X9_10 S hK hP h0 dX9_share_87 hf (fun x13 hx13 hf => ?_)
                  refine gf_X9_176 S hK hP hx13 dX9_share_90 hf (fun x14 hx14 hf => ?_)
                  refine lv_iload hx hb dX9_share_93 (lv_at hl 5 rfl) ?_
                  refine lv_iload hx hb dX9_share_95 (lv_at hl 3 rfl) ?_
                  refine lv_iload_n hx hb dX9_share_97 rfl (lv_at hl 2 rfl) ?_
                  refine r_callS (As := [.ref (ad x14), .int x2, .int p4, .int p3]) (rest := []) S hK hE hst hP hS (cw_X9_183 ht ⟨Nat.le_of_ble_eq_true rfl, Nat.le_of_ble_eq_true rfl⟩) rfl hl.1 rfl (Nat.le_of_ble_eq_true rfl) dX9_share_98 z2 (fun _ _ h => c_X9_reach hG  hx14.1 h) hf (fun x15 M H locs hP hS bx15 hf => ?_)
                  refine r_if_lt (tgt := 107) S dX9_share_101 (by decide) hf (fun hf => ?_) (fun hf => ?_)
                  · refine lv_iinc (v := (v9 + 1)) (lv' := [(8, .int (v9 + 1)), (0, .ref (ad o)), (2, .int p2), (3, .int p3), (4, .int p4), (5, .int x1), (6, .int x2), (7, .int v8)]) hx hb dX9_share_107 hl (k := 7) rfl rfl (by decide) rfl (fun ls hl => ?_)
                    refine lv_goto (tgt := 69) hx hb dX9_share_110 (by decide) ?_
                    exact ih10 v8 (v9 + 1) M H locs ls (lv_sub hl [1, 2, 3, 4, 5, 6, 7, 0] rfl) hP hS hf
                  · refine lv_iinc (v := (v8 + 1)) (lv' := [(7, .int (v8 + 1)), (0, .ref (ad o)), (2, .int p2), (3, .int p3), (4, .int p4), (5, .int x1), (6, .int x2), (8, .int v9)]) hx hb dX9_share_104 hl (k := 6) rfl rfl (by decide) rfl (fun ls hl => ?_)
                    refine lv_iinc (v := (v9 + 1)) (lv' := [(8, .int (v9 + 1)), (7, .int (v8 + 1)), (0, .ref (ad o)), (2, .int p2), (3, .int p3), (4, .int p4), (5, .int x1), (6, .int x2)]) hx hb dX9_share_107 hl (k := 7) rfl rfl (by decide) rfl (fun ls hl => ?_)
                    refine lv_goto (tgt := 69) hx hb dX9_share_110 (by decide) ?_
                    exact ih10 (v8 + 1) (v9 + 1) M H locs ls (lv_sub hl [2, 3, 4, 5, 6, 7, 1, 0] rfl) hP hS hf
            exact L10 _ 0 0 M H locs ls (lv_sub hl [4, 6, 7, 8, 3, 2, 1, 0] rfl) hP hS hf
          · refine lv_ldc (v := (-1000000001)) hx hb hown (ht _ k_405) dX9_share_60 ?_
            exact hret _ _ _ _ _ _ dX9_share_62 hP hS rfl hf
      · refine lv_ldc (v := (-1000000001)) hx hb hown (ht _ k_405) dX9_share_39 ?_
        exact hret _ _ _ _ _ _ dX9_share_41 hP hS rfl hf
def f_X9_isSheet (p0 : Int32) (M : Mem) : Option (Int32 × Mem) :=
  bd (f_X9_within p0 0 3 M) fun x1 M =>
  some (x1, M)
def rm_X9_isSheet : Room := { frames := 1, cells := 0, slots := 0, locals := 22 }
set_option maxHeartbeats 4000000 in
set_option maxRecDepth 100000 in
theorem c_X9_isSheet {l : Launch} {D : va_G} {K : Ks} {ad : Nat → Nat} {A : Nat → Prop} {tC tA tP : Nat} {kK kV : Nat → Nat} (hG : Gok G1 ad A) {p0 : Int32}  {M : Mem} {r : Int32} {M' : Mem} (hf : f_X9_isSheet p0 M = some (r, M')) : Ct l (E1 A tC tA tP kK kV) D K G1 ad A yX9_isSheet (ws_of yX9_isSheet cX9_isSheet 1 (some .boolean)) rm_X9_isSheet .boolean [.int p0] M r M' := by
  have hst : Est A (E1 A tC tA tP kK kV) := est1
  refine Ct.ofW (by decide) (Nat.le_of_ble_eq_true rfl) ?_
  intro p e s m args below meth c Q H locs ls S hK hE hP hS hl hret
  have hx := S.1
  have hb := S.2.1
  have hown := S.2.2.2.1
  have ht := S.2.2.2.2
  have hl : lv_has ls 1 [(0, .int p0)] := hl
  unfold f_X9_isSheet at hf
  refine lv_iload_n hx hb dX9_isSheet_0 rfl (lv_at hl 0 rfl) ?_
  refine lv_iconst (v := 0) hx hb dX9_isSheet_1 (by decide) ?_
  refine lv_iconst (v := 3) hx hb dX9_isSheet_2 (by decide) ?_
  refine r_callS (As := [.int p0, .int 0, .int 3]) (rest := []) S hK hE hst hP hS (cw_X9_44 ht ⟨Nat.le_of_ble_eq_true rfl, Nat.le_of_ble_eq_true rfl⟩) rfl hl.1 rfl (Nat.le_of_ble_eq_true rfl) dX9_isSheet_3 z2 (fun _ _ h => c_X9_within hG  h) hf (fun x1 M H locs hP hS bx1 hf => ?_)
  exact hret _ _ _ _ _ _ dX9_isSheet_6 hP hS bx1 hf
theorem cw_X9_281 {R : Room} {s : State} {args : Array Value} (ht : ∀ w ∈ Tw, w.before args s = true) (hR : rm_X9_isSheet.frames + 1 ≤ R.frames ∧ 8 + (1 + 11) + rm_X9_isSheet.locals ≤ R.locals) : CallB R s args RX9 281 yX9_isSheet cX9_isSheet 1 (some .boolean) (ws_of yX9_isSheet cX9_isSheet 1 (some .boolean)) rm_X9_isSheet 0 0 1 ∧ (Cond.static yX9_isSheet).before args s = true := cw_S 1 ht k_976 k_977 k_63 k_978 (by decide +kernel) rfl rfl hR
theorem cw_X9_284 {R : Room} {s : State} {args : Array Value} (ht : ∀ w ∈ Tw, w.before args s = true) (hR : rm_X4_renew.frames + 1 ≤ R.frames ∧ 8 + (4 + 11) + rm_X4_renew.locals ≤ R.locals) : CallW R s args RX9 RX4 284 yX4_renew cX4_renew 4 (some .int) (ws_of yX4_renew cX4_renew 4 (some .int)) rm_X4_renew 0 0 2 := cw_V 2 ht k_979 k_980 k_981 k_71 k_982 (by decide +kernel) rfl rfl hR
section
variable {p : Program} {l : Launch} {e : Env} {R : Room} {s : State} {m : MethodId} {args : Array Value} {below : List Frame} {meth : Method} {c : Code} {H : Heap} {locs : List Loc} {cells slots : Nat} {Q : State → Prop} {cc : ByteArray} {pc : Nat} {ls : Array Slot} {rest : List Value} {nL : Nat} {D : va_G} {K : Ks} {ad : Nat → Nat} {A : Nat → Prop} {M : Mem} {β : Type} {z : β}
theorem gf_X9_32 (S : CallFix p m c cc nL s args Tw RX9) (hK : va_K D classes (gty K) s) (hP : va_P D classes (gws K G1 ad M) H) {a : Nat} {kk : Nat → Option β} (ha : gcl G1 a = 9) (hdg : decode cc pc = .ok (.getfield 32, 3)) (hf : vv (grf G1 a 6) kk = some z) (w : ∀ b, gcl G1 b = 22 ∧ gsz G1 b = 4 → kk b = some z → W p l e R s m args below meth c H locs cells slots Q (F0 m (pc + 3) ls (.ref (ad b) :: rest))) : W p l e R s m args below meth c H locs cells slots Q (F0 m pc ls (.ref (ad a) :: rest)) := r_getr S hK hP (T := TX9) inX9 rfl (by decide) (by decide) ha (sf_X9_6 ha).1 k_379 hdg hf (fun b e => w b (by rw [e]; exact (sf_X9_6 ha).2))
end
def f_X9_sheet (o : Nat) (p1 : Int32) (p2 : Int32) (p3 : Int32) (M : Mem) : Option (Int32 × Mem) :=
  bd (f_X9_isSheet p1 M) fun x1 M =>
  if x1 = 0 then
    some ((-1000000001), M)
  else
    bd (f_X9_within p2 (-1) 1 M) fun x2 M =>
    if x2 = 0 then
      some ((-1000000001), M)
    else
      if p2 = (-1) then
        vv (grf G1 o 6) fun x6 =>
        la G1 x6 p1 4 fun x7 =>
        bd (f_X4_renew x7 (-1) 0 M) fun x8 M =>
        some (x8, M)
      else
        if 24 < p3 then
          some ((-1000000001), M)
        else
          if p3 < 0 then
            some ((-1000000014), M)
          else
            vv (grf G1 o 6) fun x3 =>
            la G1 x3 p1 4 fun x4 =>
            bd (f_X4_renew x4 p2 p3 M) fun x5 M =>
            some (x5, M)
def rm_X9_sheet : Room := { frames := 2, cells := 0, slots := 0, locals := 42 }
set_option maxHeartbeats 4000000 in
set_option maxRecDepth 100000 in
theorem c_X9_sheet {l : Launch} {D : va_G} {K : Ks} {ad : Nat → Nat} {A : Nat → Prop} {tC tA tP : Nat} {kK kV : Nat → Nat} (hG : Gok G1 ad A) {o : Nat} {p1 : Int32} {p2 : Int32} {p3 : Int32} (h0 : gcl G1 o = 9) {M : Mem} {r : Int32} {M' : Mem} (hf : f_X9_sheet o p1 p2 p3 M = some (r, M')) : Ct l (E1 A tC tA tP kK kV) D K G1 ad A yX9_sheet (ws_of yX9_sheet cX9_sheet 4 (some .int)) rm_X9_sheet .int [.ref (ad o), .int p1, .int p2, .int p3] M r M' := by
  have hst : Est A (E1 A tC tA tP kK kV) := est1
  refine Ct.ofW (by decide) (Nat.le_of_ble_eq_true rfl) ?_
  intro p e s m args below meth c Q H locs ls S hK hE hP hS hl hret
  have hx := S.1
  have hb := S.2.1
  have hown := S.2.2.2.1
  have ht := S.2.2.2.2
  have hl : lv_has ls 4 [(0, .ref (ad o)), (1, .int p1), (2, .int p2), (3, .int p3)] := hl
  unfold f_X9_sheet at hf
  refine lv_iload_n hx hb dX9_sheet_0 rfl (lv_at hl 1 rfl) ?_
  refine r_callS (As := [.int p1]) (rest := []) S hK hE hst hP hS (cw_X9_281 ht ⟨Nat.le_of_ble_eq_true rfl, Nat.le_of_ble_eq_true rfl⟩) rfl hl.1 rfl (Nat.le_of_ble_eq_true rfl) dX9_sheet_1 z2 (fun _ _ h => c_X9_isSheet hG  h) hf (fun x1 M H locs hP hS bx1 hf => ?_)
  refine r_if_eq (tgt := 16) S dX9_sheet_4 (by decide) hf (fun hf => ?_) (fun hf => ?_)
  · refine lv_ldc (v := (-1000000001)) hx hb hown (ht _ k_405) dX9_sheet_16 ?_
    exact hret _ _ _ _ _ _ dX9_sheet_18 hP hS rfl hf
  · refine lv_iload_n hx hb dX9_sheet_7 rfl (lv_at hl 2 rfl) ?_
    refine lv_iconst (v := (-1)) hx hb dX9_sheet_8 (by decide) ?_
    refine lv_iconst (v := 1) hx hb dX9_sheet_9 (by decide) ?_
    refine r_callS (As := [.int p2, .int (-1), .int 1]) (rest := []) S hK hE hst hP hS (cw_X9_44 ht ⟨Nat.le_of_ble_eq_true rfl, Nat.le_of_ble_eq_true rfl⟩) rfl hl.1 rfl (Nat.le_of_ble_eq_true rfl) dX9_sheet_10 z2 (fun _ _ h => c_X9_within hG  h) hf (fun x2 M H locs hP hS bx2 hf => ?_)
    refine r_if_ne (tgt := 19) S dX9_sheet_13 (by decide) hf (fun hf => ?_) (fun hf => ?_)
    · refine lv_iload_n hx hb dX9_sheet_19 rfl (lv_at hl 2 rfl) ?_
      refine lv_iconst (v := (-1)) hx hb dX9_sheet_20 (by decide) ?_
      refine r_icmp_ne (tgt := 36) S dX9_sheet_21 (by decide) hf (fun hf => ?_) (fun hf => ?_)
      · refine lv_iload_n hx hb dX9_sheet_36 rfl (lv_at hl 3 rfl) ?_
        refine lv_bipush (v := 24) hx hb dX9_sheet_37 (by decide) ?_
        refine r_icmp_le (tgt := 45) S dX9_sheet_39 (by decide) hf (fun hf => ?_) (fun hf => ?_)
        · refine lv_iload_n hx hb dX9_sheet_45 rfl (lv_at hl 3 rfl) ?_
          refine r_if_ge (tgt := 53) S dX9_sheet_46 (by decide) hf (fun hf => ?_) (fun hf => ?_)
          · refine lv_aload_n hx hb dX9_sheet_53 rfl (lv_at hl 0 rfl) ?_
            refine gf_X9_32 S hK hP h0 dX9_sheet_54 hf (fun x3 hx3 hf => ?_)
            refine lv_iload_n hx hb dX9_sheet_57 rfl (lv_at hl 1 rfl) ?_
            refine r_aald22 S hK hP hx3 (ra22 hx3.1) dX9_sheet_58 hf (fun x4 hx4 hf => ?_)
            refine lv_iload_n hx hb dX9_sheet_59 rfl (lv_at hl 2 rfl) ?_
            refine lv_iload_n hx hb dX9_sheet_60 rfl (lv_at hl 3 rfl) ?_
            refine r_callV (As := [.int p2, .int p3]) (rest := []) S hK hE hst hP hS hx4 (by decide) rfl (cw_X9_284 ht ⟨Nat.le_of_ble_eq_true rfl, Nat.le_of_ble_eq_true rfl⟩) rfl hl.1 rfl (Nat.le_of_ble_eq_true rfl) dX9_sheet_61 z2 (fun _ _ h => c_X4_renew hG  hx4 h) hf (fun x5 M H locs hP hS bx5 hf => ?_)
            exact hret _ _ _ _ _ _ dX9_sheet_64 hP hS rfl hf
          · refine lv_ldcw (v := (-1000000014)) hx hb hown (ht _ k_983) dX9_sheet_49 ?_
            exact hret _ _ _ _ _ _ dX9_sheet_52 hP hS rfl hf
        · refine lv_ldc (v := (-1000000001)) hx hb hown (ht _ k_405) dX9_sheet_42 ?_
          exact hret _ _ _ _ _ _ dX9_sheet_44 hP hS rfl hf
      · refine lv_aload_n hx hb dX9_sheet_24 rfl (lv_at hl 0 rfl) ?_
        refine gf_X9_32 S hK hP h0 dX9_sheet_25 hf (fun x6 hx6 hf => ?_)
        refine lv_iload_n hx hb dX9_sheet_28 rfl (lv_at hl 1 rfl) ?_
        refine r_aald22 S hK hP hx6 (ra22 hx6.1) dX9_sheet_29 hf (fun x7 hx7 hf => ?_)
        refine lv_iconst (v := (-1)) hx hb dX9_sheet_30 (by decide) ?_
        refine lv_iconst (v := 0) hx hb dX9_sheet_31 (by decide) ?_
        refine r_callV (As := [.int (-1), .int 0]) (rest := []) S hK hE hst hP hS hx7 (by decide) rfl (cw_X9_284 ht ⟨Nat.le_of_ble_eq_true rfl, Nat.le_of_ble_eq_true rfl⟩) rfl hl.1 rfl (Nat.le_of_ble_eq_true rfl) dX9_sheet_32 z2 (fun _ _ h => c_X4_renew hG  hx7 h) hf (fun x8 M H locs hP hS bx8 hf => ?_)
        exact hret _ _ _ _ _ _ dX9_sheet_35 hP hS rfl hf
    · refine lv_ldc (v := (-1000000001)) hx hb hown (ht _ k_405) dX9_sheet_16 ?_
      exact hret _ _ _ _ _ _ dX9_sheet_18 hP hS rfl hf
theorem cw_X9_292 {R : Room} {s : State} {args : Array Value} (ht : ∀ w ∈ Tw, w.before args s = true) (hR : rm_X4_has.frames + 1 ≤ R.frames ∧ 8 + (2 + 11) + rm_X4_has.locals ≤ R.locals) : CallW R s args RX9 RX4 292 yX4_has cX4_has 2 (some .boolean) (ws_of yX4_has cX4_has 2 (some .boolean)) rm_X4_has 0 0 1 := cw_V 1 ht k_989 k_990 k_991 k_71 k_992 (by decide +kernel) rfl rfl hR
section
variable {p : Program} {l : Launch} {e : Env} {R : Room} {s : State} {m : MethodId} {args : Array Value} {below : List Frame} {meth : Method} {c : Code} {H : Heap} {locs : List Loc} {cells slots : Nat} {Q : State → Prop} {cc : ByteArray} {pc : Nat} {ls : Array Slot} {rest : List Value} {nL : Nat} {D : va_G} {K : Ks} {ad : Nat → Nat} {A : Nat → Prop} {M : Mem} {β : Type} {z : β}
theorem gf_X9_288 (S : CallFix p m c cc nL s args Tw RX9) (hK : va_K D classes (gty K) s) (hP : va_P D classes (gws K G1 ad M) H) {a : Nat} {kk : Int32 → Option β} (ha : gcl G1 a = 4) (hdg : decode cc pc = .ok (.getfield 288, 3)) (hf : vv (M a 0) kk = some z) (w : ∀ x, kk x = some z → W p l e R s m args below meth c H locs cells slots Q (F0 m (pc + 3) ls (.int x :: rest))) : W p l e R s m args below meth c H locs cells slots Q (F0 m pc ls (.ref (ad a) :: rest)) := r_geti S hK hP (T := TX4) inX4 rfl (by decide) (by decide) ha (sf_X4_0 ha) k_335 hdg hf w
end
section
variable {p : Program} {l : Launch} {e : Env} {R : Room} {s : State} {m : MethodId} {args : Array Value} {below : List Frame} {meth : Method} {c : Code} {H : Heap} {locs : List Loc} {cells slots : Nat} {Q : State → Prop} {cc : ByteArray} {pc : Nat} {ls : Array Slot} {rest : List Value} {nL : Nat} {D : va_G} {K : Ks} {ad : Nat → Nat} {A : Nat → Prop} {M : Mem} {β : Type} {z : β}
theorem gf_X9_294 (S : CallFix p m c cc nL s args Tw RX9) (hK : va_K D classes (gty K) s) (hP : va_P D classes (gws K G1 ad M) H) {a : Nat} {kk : Nat → Option β} (ha : gcl G1 a = 4) (hdg : decode cc pc = .ok (.getfield 294, 3)) (hf : vv (grf G1 a 2) kk = some z) (w : ∀ b, gcl G1 b = 20 ∧ gsz G1 b = 24 → kk b = some z → W p l e R s m args below meth c H locs cells slots Q (F0 m (pc + 3) ls (.ref (ad b) :: rest))) : W p l e R s m args below meth c H locs cells slots Q (F0 m pc ls (.ref (ad a) :: rest)) := r_getr S hK hP (T := TX4) inX4 rfl (by decide) (by decide) ha (sf_X4_2 ha).1 k_338 hdg hf (fun b e => w b (by rw [e]; exact (sf_X4_2 ha).2))
end
def f_X9_mark (o : Nat) (p1 : Int32) (p2 : Int32) (p3 : Int32) (M : Mem) : Option (Int32 × Mem) :=
  bd (f_X9_isSheet p1 M) fun x1 M =>
  if x1 = 0 then
    some ((-1000000001), M)
  else
    vv (grf G1 o 6) fun x2 =>
    la G1 x2 p1 4 fun x3 =>
    vv (M x3 0) fun x4 =>
    if x4 = (-1) then
      some ((-1000000011), M)
    else
      bd (f_X4_has x3 p2 M) fun x5 M =>
      if x5 = 0 then
        some ((-1000000013), M)
      else
        vv (M x3 0) fun x6 =>
        if x6 = 1 then
          if p3 = (-1000000005) then
            some ((-1000000012), M)
          else
            vv (grf G1 x3 2) fun x10 =>
            st M x10 p2 24 (Int16.toInt32 (Int32.toInt16 p3)) fun M =>
            some (1, M)
        else
          jn (fun (M : Mem) =>
            vv (grf G1 x3 2) fun x8 =>
            st M x8 p2 24 p3 fun M =>
            some (1, M)
          ) fun k7 =>
          if p3 = (-1000000005) then
            k7 M
          else
            bd (f_X9_within p3 (-99999) 99999 M) fun x9 M =>
            if x9 = 0 then
              some ((-1000000001), M)
            else
              k7 M
def rm_X9_mark : Room := { frames := 2, cells := 0, slots := 0, locals := 42 }
set_option maxHeartbeats 4000000 in
set_option maxRecDepth 100000 in
theorem c_X9_mark {l : Launch} {D : va_G} {K : Ks} {ad : Nat → Nat} {A : Nat → Prop} {tC tA tP : Nat} {kK kV : Nat → Nat} (hG : Gok G1 ad A) {o : Nat} {p1 : Int32} {p2 : Int32} {p3 : Int32} (h0 : gcl G1 o = 9) {M : Mem} {r : Int32} {M' : Mem} (hf : f_X9_mark o p1 p2 p3 M = some (r, M')) : Ct l (E1 A tC tA tP kK kV) D K G1 ad A yX9_mark (ws_of yX9_mark cX9_mark 5 (some .int)) rm_X9_mark .int [.ref (ad o), .int p1, .int p2, .int p3] M r M' := by
  have hst : Est A (E1 A tC tA tP kK kV) := est1
  refine Ct.ofW (by decide) (Nat.le_of_ble_eq_true rfl) ?_
  intro p e s m args below meth c Q H locs ls S hK hE hP hS hl hret
  have hx := S.1
  have hb := S.2.1
  have hown := S.2.2.2.1
  have ht := S.2.2.2.2
  have hl : lv_has ls 5 [(0, .ref (ad o)), (1, .int p1), (2, .int p2), (3, .int p3)] := hl
  unfold f_X9_mark at hf
  refine lv_iload_n hx hb dX9_mark_0 rfl (lv_at hl 1 rfl) ?_
  refine r_callS (As := [.int p1]) (rest := []) S hK hE hst hP hS (cw_X9_281 ht ⟨Nat.le_of_ble_eq_true rfl, Nat.le_of_ble_eq_true rfl⟩) rfl hl.1 rfl (Nat.le_of_ble_eq_true rfl) dX9_mark_1 z2 (fun _ _ h => c_X9_isSheet hG  h) hf (fun x1 M H locs hP hS bx1 hf => ?_)
  refine r_if_ne (tgt := 10) S dX9_mark_4 (by decide) hf (fun hf => ?_) (fun hf => ?_)
  · refine lv_aload_n hx hb dX9_mark_10 rfl (lv_at hl 0 rfl) ?_
    refine gf_X9_32 S hK hP h0 dX9_mark_11 hf (fun x2 hx2 hf => ?_)
    refine lv_iload_n hx hb dX9_mark_14 rfl (lv_at hl 1 rfl) ?_
    refine r_aald22 S hK hP hx2 (ra22 hx2.1) dX9_mark_15 hf (fun x3 hx3 hf => ?_)
    refine lv_astore (lv' := [(4, .ref (ad x3)), (0, .ref (ad o)), (1, .int p1), (2, .int p2), (3, .int p3)]) hx hb dX9_mark_16 hl (by decide) rfl (fun ls hl => ?_)
    refine lv_aload hx hb dX9_mark_18 (lv_at hl 0 rfl) ?_
    refine gf_X9_288 S hK hP hx3 dX9_mark_20 hf (fun x4 hf => ?_)
    refine lv_iconst (v := (-1)) hx hb dX9_mark_23 (by decide) ?_
    refine r_icmp_ne (tgt := 31) S dX9_mark_24 (by decide) hf (fun hf => ?_) (fun hf => ?_)
    · refine lv_aload hx hb dX9_mark_31 (lv_at hl 0 rfl) ?_
      refine lv_iload_n hx hb dX9_mark_33 rfl (lv_at hl 3 rfl) ?_
      refine r_callV (As := [.int p2]) (rest := []) S hK hE hst hP hS hx3 (by decide) rfl (cw_X9_292 ht ⟨Nat.le_of_ble_eq_true rfl, Nat.le_of_ble_eq_true rfl⟩) rfl hl.1 rfl (Nat.le_of_ble_eq_true rfl) dX9_mark_34 z2 (fun _ _ h => c_X4_has hG  hx3 h) hf (fun x5 M H locs hP hS bx5 hf => ?_)
      refine r_if_ne (tgt := 44) S dX9_mark_37 (by decide) hf (fun hf => ?_) (fun hf => ?_)
      · refine lv_aload hx hb dX9_mark_44 (lv_at hl 0 rfl) ?_
        refine gf_X9_288 S hK hP hx3 dX9_mark_46 hf (fun x6 hf => ?_)
        refine lv_iconst (v := 1) hx hb dX9_mark_49 (by decide) ?_
        refine r_icmp_ne (tgt := 73) S dX9_mark_50 (by decide) hf (fun hf => ?_) (fun hf => ?_)
        · refine lv_iload_n hx hb dX9_mark_73 rfl (lv_at hl 4 rfl) ?_
          refine lv_ldc (v := (-1000000005)) hx hb hown (ht _ k_439) dX9_mark_74 ?_
          obtain ⟨k7, hk7, hf⟩ := jn_w hf
          have J7 : ∀ (M : Mem) (H : Heap) (locs : List Loc) (ls : Array Slot), lv_has ls 5 [(2, .int p2), (3, .int p3), (4, .ref (ad x3))] → va_P D classes (gws K G1 ad M) H → va_S A s.heap H locs → k7 M = some (r, M') → W p l e rm_X9_mark s m args below meth c H locs 0 0 Q (F0 m 95 ls []) := by
            intro M H locs ls hl hP hS hf
            rw [hk7] at hf
            refine lv_aload hx hb dX9_mark_95 (lv_at hl 2 rfl) ?_
            refine gf_X9_294 S hK hP hx3 dX9_mark_97 hf (fun x8 hx8 hf => ?_)
            refine lv_iload_n hx hb dX9_mark_100 rfl (lv_at hl 0 rfl) ?_
            refine lv_iload_n hx hb dX9_mark_101 rfl (lv_at hl 1 rfl) ?_
            refine r_iast S hK hG hP hS hx8 dX9_mark_102 hf (fun M H locs hP hS hf => ?_)
            refine lv_iconst (v := 1) hx hb dX9_mark_103 (by decide) ?_
            exact hret _ _ _ _ _ _ dX9_mark_104 hP hS rfl hf
          refine r_icmp_eq (tgt := 95) S dX9_mark_76 (by decide) hf (fun hf => ?_) (fun hf => ?_)
          · exact J7 M H locs ls (lv_sub hl [3, 4, 0] rfl) hP hS hf
          · refine lv_iload_n hx hb dX9_mark_79 rfl (lv_at hl 4 rfl) ?_
            refine lv_ldcw (v := (-99999)) hx hb hown (ht _ k_994) dX9_mark_80 ?_
            refine lv_ldcw (v := 99999) hx hb hown (ht _ k_995) dX9_mark_83 ?_
            refine r_callS (As := [.int p3, .int (-99999), .int 99999]) (rest := []) S hK hE hst hP hS (cw_X9_44 ht ⟨Nat.le_of_ble_eq_true rfl, Nat.le_of_ble_eq_true rfl⟩) rfl hl.1 rfl (Nat.le_of_ble_eq_true rfl) dX9_mark_86 z2 (fun _ _ h => c_X9_within hG  h) hf (fun x9 M H locs hP hS bx9 hf => ?_)
            refine r_if_ne (tgt := 95) S dX9_mark_89 (by decide) hf (fun hf => ?_) (fun hf => ?_)
            · exact J7 M H locs ls (lv_sub hl [3, 4, 0] rfl) hP hS hf
            · refine lv_ldc (v := (-1000000001)) hx hb hown (ht _ k_405) dX9_mark_92 ?_
              exact hret _ _ _ _ _ _ dX9_mark_94 hP hS rfl hf
        · refine lv_iload_n hx hb dX9_mark_53 rfl (lv_at hl 4 rfl) ?_
          refine lv_ldc (v := (-1000000005)) hx hb hown (ht _ k_439) dX9_mark_54 ?_
          refine r_icmp_ne (tgt := 62) S dX9_mark_56 (by decide) hf (fun hf => ?_) (fun hf => ?_)
          · refine lv_aload hx hb dX9_mark_62 (lv_at hl 0 rfl) ?_
            refine gf_X9_294 S hK hP hx3 dX9_mark_64 hf (fun x10 hx10 hf => ?_)
            refine lv_iload_n hx hb dX9_mark_67 rfl (lv_at hl 3 rfl) ?_
            refine lv_iload_n hx hb dX9_mark_68 rfl (lv_at hl 4 rfl) ?_
            refine lv_i2s (v := (Int16.toInt32 (Int32.toInt16 p3))) hx hb dX9_mark_69 rfl ?_
            refine r_iast S hK hG hP hS hx10 dX9_mark_70 hf (fun M H locs hP hS hf => ?_)
            refine lv_iconst (v := 1) hx hb dX9_mark_71 (by decide) ?_
            exact hret _ _ _ _ _ _ dX9_mark_72 hP hS rfl hf
          · refine lv_ldc (v := (-1000000012)) hx hb hown (ht _ k_520) dX9_mark_59 ?_
            exact hret _ _ _ _ _ _ dX9_mark_61 hP hS rfl hf
      · refine lv_ldcw (v := (-1000000013)) hx hb hown (ht _ k_993) dX9_mark_40 ?_
        exact hret _ _ _ _ _ _ dX9_mark_43 hP hS rfl hf
    · refine lv_ldcw (v := (-1000000011)) hx hb hown (ht _ k_988) dX9_mark_27 ?_
      exact hret _ _ _ _ _ _ dX9_mark_30 hP hS rfl hf
  · refine lv_ldc (v := (-1000000001)) hx hb hown (ht _ k_405) dX9_mark_7 ?_
    exact hret _ _ _ _ _ _ dX9_mark_9 hP hS rfl hf
theorem cw_X9_299 {R : Room} {s : State} {args : Array Value} (ht : ∀ w ∈ Tw, w.before args s = true) (hR : rm_X4_values.frames + 1 ≤ R.frames ∧ 8 + (2 + 11) + rm_X4_values.locals ≤ R.locals) : CallW R s args RX9 RX4 299 yX4_values cX4_values 2 (some .int) (ws_of yX4_values cX4_values 2 (some .int)) rm_X4_values 0 0 0 := cw_V 0 ht k_1000 k_1001 k_1002 k_71 k_1003 (by decide +kernel) rfl rfl hR
def f_X9_print (o : Nat) (p1 : Int32) (p2 : Int32) (p3 : Int32) (M : Mem) : Option (Int32 × Mem) :=
  vv (grf G1 o 0) fun x1 =>
  vv (grf G1 x1 0) fun x2 =>
  bd (f_X0_hasTable x2 p1 M) fun x3 M =>
  if x3 = 0 then
    some ((-1000000001), M)
  else
    bd (f_X9_isSheet p2 M) fun x4 M =>
    if x4 = 0 then
      some ((-1000000001), M)
    else
      bd (f_X9_arePairs p3 M) fun x5 M =>
      if x5 = 0 then
        some ((-1000000001), M)
      else
        vv (grf G1 o 6) fun x6 =>
        la G1 x6 p2 4 fun x7 =>
        vv (M x7 0) fun x8 =>
        if x8 = (-1) then
          some ((-1000000011), M)
        else
          bd (f_X4_values x7 M) fun x9 M =>
          vv (grf G1 o 0) fun x10 =>
          vv (grf G1 x10 0) fun x11 =>
          vv (M x11 2) fun x12 =>
          if 40 < (x12 + x9) then
            some ((-1000000003), M)
          else
            it1 (fun rc14 (v13 : Int32) M =>
              if v13 < x9 then
                vv (grf G1 o 0) fun x15 =>
                vv (grf G1 x15 0) fun x16 =>
                vv (grf G1 x7 2) fun x17 =>
                ld M x17 v13 24 fun x18 =>
                bd (f_X0_add x16 p1 1 x18 p3 (-1) M) fun x19 M =>
                rc14 (v13 + 1) M
              else
                some (x9, M)
            ) fuel 0 M
def rm_X9_print : Room := { frames := 2, cells := 0, slots := 0, locals := 43 }
set_option maxHeartbeats 4000000 in
set_option maxRecDepth 100000 in
theorem c_X9_print {l : Launch} {D : va_G} {K : Ks} {ad : Nat → Nat} {A : Nat → Prop} {tC tA tP : Nat} {kK kV : Nat → Nat} (hG : Gok G1 ad A) {o : Nat} {p1 : Int32} {p2 : Int32} {p3 : Int32} (h0 : gcl G1 o = 9) {M : Mem} {r : Int32} {M' : Mem} (hf : f_X9_print o p1 p2 p3 M = some (r, M')) : Ct l (E1 A tC tA tP kK kV) D K G1 ad A yX9_print (ws_of yX9_print cX9_print 7 (some .int)) rm_X9_print .int [.ref (ad o), .int p1, .int p2, .int p3] M r M' := by
  have hst : Est A (E1 A tC tA tP kK kV) := est1
  refine Ct.ofW (by decide) (Nat.le_of_ble_eq_true rfl) ?_
  intro p e s m args below meth c Q H locs ls S hK hE hP hS hl hret
  have hx := S.1
  have hb := S.2.1
  have hown := S.2.2.2.1
  have ht := S.2.2.2.2
  have hl : lv_has ls 7 [(0, .ref (ad o)), (1, .int p1), (2, .int p2), (3, .int p3)] := hl
  unfold f_X9_print at hf
  refine lv_aload_n hx hb dX9_print_0 rfl (lv_at hl 0 rfl) ?_
  refine gf_X9_10 S hK hP h0 dX9_print_1 hf (fun x1 hx1 hf => ?_)
  refine gf_X9_49 S hK hP hx1 dX9_print_4 hf (fun x2 hx2 hf => ?_)
  refine lv_iload_n hx hb dX9_print_7 rfl (lv_at hl 1 rfl) ?_
  refine r_callV (As := [.int p1]) (rest := []) S hK hE hst hP hS hx2 (by decide) rfl (cw_X9_59 ht ⟨Nat.le_of_ble_eq_true rfl, Nat.le_of_ble_eq_true rfl⟩) rfl hl.1 rfl (Nat.le_of_ble_eq_true rfl) dX9_print_8 z2 (fun _ _ h => c_X0_hasTable hG  hx2 h) hf (fun x3 M H locs hP hS bx3 hf => ?_)
  refine r_if_eq (tgt := 28) S dX9_print_11 (by decide) hf (fun hf => ?_) (fun hf => ?_)
  · refine lv_ldc (v := (-1000000001)) hx hb hown (ht _ k_405) dX9_print_28 ?_
    exact hret _ _ _ _ _ _ dX9_print_30 hP hS rfl hf
  · refine lv_iload_n hx hb dX9_print_14 rfl (lv_at hl 2 rfl) ?_
    refine r_callS (As := [.int p2]) (rest := []) S hK hE hst hP hS (cw_X9_281 ht ⟨Nat.le_of_ble_eq_true rfl, Nat.le_of_ble_eq_true rfl⟩) rfl hl.1 rfl (Nat.le_of_ble_eq_true rfl) dX9_print_15 z2 (fun _ _ h => c_X9_isSheet hG  h) hf (fun x4 M H locs hP hS bx4 hf => ?_)
    refine r_if_eq (tgt := 28) S dX9_print_18 (by decide) hf (fun hf => ?_) (fun hf => ?_)
    · refine lv_ldc (v := (-1000000001)) hx hb hown (ht _ k_405) dX9_print_28 ?_
      exact hret _ _ _ _ _ _ dX9_print_30 hP hS rfl hf
    · refine lv_iload_n hx hb dX9_print_21 rfl (lv_at hl 3 rfl) ?_
      refine r_callS (As := [.int p3]) (rest := []) S hK hE hst hP hS (cw_X9_66 ht ⟨Nat.le_of_ble_eq_true rfl, Nat.le_of_ble_eq_true rfl⟩) rfl hl.1 rfl (Nat.le_of_ble_eq_true rfl) dX9_print_22 z2 (fun _ _ h => c_X9_arePairs hG  h) hf (fun x5 M H locs hP hS bx5 hf => ?_)
      refine r_if_ne (tgt := 31) S dX9_print_25 (by decide) hf (fun hf => ?_) (fun hf => ?_)
      · refine lv_aload_n hx hb dX9_print_31 rfl (lv_at hl 0 rfl) ?_
        refine gf_X9_32 S hK hP h0 dX9_print_32 hf (fun x6 hx6 hf => ?_)
        refine lv_iload_n hx hb dX9_print_35 rfl (lv_at hl 2 rfl) ?_
        refine r_aald22 S hK hP hx6 (ra22 hx6.1) dX9_print_36 hf (fun x7 hx7 hf => ?_)
        refine lv_astore (lv' := [(4, .ref (ad x7)), (0, .ref (ad o)), (1, .int p1), (2, .int p2), (3, .int p3)]) hx hb dX9_print_37 hl (by decide) rfl (fun ls hl => ?_)
        refine lv_aload hx hb dX9_print_39 (lv_at hl 0 rfl) ?_
        refine gf_X9_288 S hK hP hx7 dX9_print_41 hf (fun x8 hf => ?_)
        refine lv_iconst (v := (-1)) hx hb dX9_print_44 (by decide) ?_
        refine r_icmp_ne (tgt := 52) S dX9_print_45 (by decide) hf (fun hf => ?_) (fun hf => ?_)
        · refine lv_aload hx hb dX9_print_52 (lv_at hl 0 rfl) ?_
          refine r_callV (As := []) (rest := []) S hK hE hst hP hS hx7 (by decide) rfl (cw_X9_299 ht ⟨Nat.le_of_ble_eq_true rfl, Nat.le_of_ble_eq_true rfl⟩) rfl hl.1 rfl (Nat.le_of_ble_eq_true rfl) dX9_print_54 z2 (fun _ _ h => c_X4_values hG  hx7 h) hf (fun x9 M H locs hP hS bx9 hf => ?_)
          refine lv_istore (lv' := [(5, .int x9), (4, .ref (ad x7)), (0, .ref (ad o)), (1, .int p1), (2, .int p2), (3, .int p3)]) hx hb dX9_print_57 hl (by decide) rfl (fun ls hl => ?_)
          refine lv_aload_n hx hb dX9_print_59 rfl (lv_at hl 2 rfl) ?_
          refine gf_X9_10 S hK hP h0 dX9_print_60 hf (fun x10 hx10 hf => ?_)
          refine gf_X9_49 S hK hP hx10 dX9_print_63 hf (fun x11 hx11 hf => ?_)
          refine gf_X9_75 S hK hP hx11 dX9_print_66 hf (fun x12 hf => ?_)
          refine lv_iload hx hb dX9_print_69 (lv_at hl 0 rfl) ?_
          refine lv_iadd hx hb dX9_print_71 ?_
          refine lv_bipush (v := 40) hx hb dX9_print_72 (by decide) ?_
          refine r_icmp_le (tgt := 80) S dX9_print_74 (by decide) hf (fun hf => ?_) (fun hf => ?_)
          · refine lv_iconst (v := 0) hx hb dX9_print_80 (by decide) ?_
            refine lv_istore (lv' := [(6, .int 0), (5, .int x9), (4, .ref (ad x7)), (0, .ref (ad o)), (1, .int p1), (2, .int p2), (3, .int p3)]) hx hb dX9_print_81 hl (by decide) rfl (fun ls hl => ?_)
            obtain ⟨F14, hF14, hf⟩ := it1_g hf
            have L14 : ∀ (n : Nat) (v13 : Int32) (M : Mem) (H : Heap) (locs : List Loc) (ls : Array Slot), lv_has ls 7 [(0, .ref (ad o)), (1, .int p1), (3, .int p3), (4, .ref (ad x7)), (5, .int x9), (6, .int v13)] → va_P D classes (gws K G1 ad M) H → va_S A s.heap H locs → it1 F14 n v13 M = some (r, M') → W p l e rm_X9_print s m args below meth c H locs 0 0 Q (F0 m 83 ls []) := by
              intro n
              induction n with
              | zero => intro v13 M H locs ls hl hP hS hf; exact nomatch hf
              | succ n ih14 =>
                intro v13 M H locs ls hl hP hS hf
                obtain ⟨rc14, hrc14, hf⟩ := it1_w hf
                rw [← hrc14] at ih14
                rw [hF14] at hf
                refine lv_iload hx hb dX9_print_83 (lv_at hl 5 rfl) ?_
                refine lv_iload hx hb dX9_print_85 (lv_at hl 4 rfl) ?_
                refine r_icmp_ge (tgt := 119) S dX9_print_87 (by decide) hf (fun hf => ?_) (fun hf => ?_)
                · refine lv_iload hx hb dX9_print_119 (lv_at hl 4 rfl) ?_
                  exact hret _ _ _ _ _ _ dX9_print_121 hP hS rfl hf
                · refine lv_aload_n hx hb dX9_print_90 rfl (lv_at hl 0 rfl) ?_
                  refine gf_X9_10 S hK hP h0 dX9_print_91 hf (fun x15 hx15 hf => ?_)
                  refine gf_X9_49 S hK hP hx15 dX9_print_94 hf (fun x16 hx16 hf => ?_)
                  refine lv_iload_n hx hb dX9_print_97 rfl (lv_at hl 1 rfl) ?_
                  refine lv_iconst (v := 1) hx hb dX9_print_98 (by decide) ?_
                  refine lv_aload hx hb dX9_print_99 (lv_at hl 3 rfl) ?_
                  refine gf_X9_294 S hK hP hx7 dX9_print_101 hf (fun x17 hx17 hf => ?_)
                  refine lv_iload hx hb dX9_print_104 (lv_at hl 5 rfl) ?_
                  refine r_iald S hK hP hx17 dX9_print_106 hf (fun x18 hf => ?_)
                  refine lv_iload_n hx hb dX9_print_107 rfl (lv_at hl 2 rfl) ?_
                  refine lv_iconst (v := (-1)) hx hb dX9_print_108 (by decide) ?_
                  refine r_callV (As := [.int p1, .int 1, .int x18, .int p3, .int (-1)]) (rest := []) S hK hE hst hP hS hx16 (by decide) rfl (cw_X9_80 ht ⟨Nat.le_of_ble_eq_true rfl, Nat.le_of_ble_eq_true rfl⟩) rfl hl.1 rfl (Nat.le_of_ble_eq_true rfl) dX9_print_109 z2 (fun _ _ h => c_X0_add hG  hx16 h) hf (fun x19 M H locs hP hS bx19 hf => ?_)
                  refine lv_pop hx hb dX9_print_112 rfl ?_
                  refine lv_iinc (v := (v13 + 1)) (lv' := [(6, .int (v13 + 1)), (0, .ref (ad o)), (1, .int p1), (3, .int p3), (4, .ref (ad x7)), (5, .int x9)]) hx hb dX9_print_113 hl (k := 5) rfl rfl (by decide) rfl (fun ls hl => ?_)
                  refine lv_goto (tgt := 83) hx hb dX9_print_116 (by decide) ?_
                  exact ih14 (v13 + 1) M H locs ls (lv_sub hl [1, 2, 3, 4, 5, 0] rfl) hP hS hf
            exact L14 _ 0 M H locs ls (lv_sub hl [3, 4, 6, 2, 1, 0] rfl) hP hS hf
          · refine lv_ldc (v := (-1000000003)) hx hb hown (ht _ k_430) dX9_print_77 ?_
            exact hret _ _ _ _ _ _ dX9_print_79 hP hS rfl hf
        · refine lv_ldcw (v := (-1000000011)) hx hb hown (ht _ k_988) dX9_print_48 ?_
          exact hret _ _ _ _ _ _ dX9_print_51 hP hS rfl hf
      · refine lv_ldc (v := (-1000000001)) hx hb hown (ht _ k_405) dX9_print_28 ?_
        exact hret _ _ _ _ _ _ dX9_print_30 hP hS rfl hf
theorem cw_X9_303 {R : Room} {s : State} {args : Array Value} (ht : ∀ w ∈ Tw, w.before args s = true) (hR : rm_X4_hasRow.frames + 1 ≤ R.frames ∧ 8 + (3 + 11) + rm_X4_hasRow.locals ≤ R.locals) : CallW R s args RX9 RX4 303 yX4_hasRow cX4_hasRow 3 (some .boolean) (ws_of yX4_hasRow cX4_hasRow 3 (some .boolean)) rm_X4_hasRow 0 0 2 := cw_V 2 ht k_1009 k_1010 k_1011 k_71 k_1012 (by decide +kernel) rfl rfl hR
def f_X9_copy (o : Nat) (p1 : Int32) (p2 : Int32) (p3 : Int32) (p4 : Int32) (p5 : Int32) (M : Mem) : Option (Int32 × Mem) :=
  bd (f_X9_isSheet p1 M) fun x1 M =>
  if x1 = 0 then
    some ((-1000000001), M)
  else
    bd (f_X9_isSheet p3 M) fun x2 M =>
    if x2 = 0 then
      some ((-1000000001), M)
    else
      vv (grf G1 o 6) fun x3 =>
      la G1 x3 p1 4 fun x4 =>
      vv (grf G1 o 6) fun x5 =>
      la G1 x5 p3 4 fun x6 =>
      vv (M x4 0) fun x7 =>
      if x7 = (-1) then
        some ((-1000000011), M)
      else
        vv (M x6 0) fun x8 =>
        if x8 = (-1) then
          some ((-1000000011), M)
        else
          vv (M x4 0) fun x9 =>
          vv (M x6 0) fun x10 =>
          if x9 = x10 then
            bd (f_X4_hasRow x4 p2 p5 M) fun x11 M =>
            if x11 = 0 then
              some ((-1000000013), M)
            else
              bd (f_X4_hasRow x6 p4 p5 M) fun x12 M =>
              if x12 = 0 then
                some ((-1000000013), M)
              else
                vv (grf G1 x4 2) fun x13 =>
                vv (grf G1 x6 2) fun x14 =>
                cy M x13 p2 24 x14 p4 24 p5 fun M =>
                some (p5, M)
          else
            some ((-1000000012), M)
def rm_X9_copy : Room := { frames := 2, cells := 0, slots := 0, locals := 60 }
set_option maxHeartbeats 4000000 in
set_option maxRecDepth 100000 in
theorem c_X9_copy {l : Launch} {D : va_G} {K : Ks} {ad : Nat → Nat} {A : Nat → Prop} {tC tA tP : Nat} {kK kV : Nat → Nat} (hG : Gok G1 ad A) {o : Nat} {p1 : Int32} {p2 : Int32} {p3 : Int32} {p4 : Int32} {p5 : Int32} (h0 : gcl G1 o = 9) {M : Mem} {r : Int32} {M' : Mem} (hf : f_X9_copy o p1 p2 p3 p4 p5 M = some (r, M')) : Ct l (E1 A tC tA tP kK kV) D K G1 ad A yX9_copy (ws_of yX9_copy cX9_copy 8 (some .int)) rm_X9_copy .int [.ref (ad o), .int p1, .int p2, .int p3, .int p4, .int p5] M r M' := by
  have hst : Est A (E1 A tC tA tP kK kV) := est1
  refine Ct.ofW (by decide) (Nat.le_of_ble_eq_true rfl) ?_
  intro p e s m args below meth c Q H locs ls S hK hE hP hS hl hret
  have hx := S.1
  have hb := S.2.1
  have hown := S.2.2.2.1
  have ht := S.2.2.2.2
  have hl : lv_has ls 8 [(0, .ref (ad o)), (1, .int p1), (2, .int p2), (3, .int p3), (4, .int p4), (5, .int p5)] := hl
  unfold f_X9_copy at hf
  refine lv_iload_n hx hb dX9_copy_0 rfl (lv_at hl 1 rfl) ?_
  refine r_callS (As := [.int p1]) (rest := []) S hK hE hst hP hS (cw_X9_281 ht ⟨Nat.le_of_ble_eq_true rfl, Nat.le_of_ble_eq_true rfl⟩) rfl hl.1 rfl (Nat.le_of_ble_eq_true rfl) dX9_copy_1 z2 (fun _ _ h => c_X9_isSheet hG  h) hf (fun x1 M H locs hP hS bx1 hf => ?_)
  refine r_if_eq (tgt := 14) S dX9_copy_4 (by decide) hf (fun hf => ?_) (fun hf => ?_)
  · refine lv_ldc (v := (-1000000001)) hx hb hown (ht _ k_405) dX9_copy_14 ?_
    exact hret _ _ _ _ _ _ dX9_copy_16 hP hS rfl hf
  · refine lv_iload_n hx hb dX9_copy_7 rfl (lv_at hl 3 rfl) ?_
    refine r_callS (As := [.int p3]) (rest := []) S hK hE hst hP hS (cw_X9_281 ht ⟨Nat.le_of_ble_eq_true rfl, Nat.le_of_ble_eq_true rfl⟩) rfl hl.1 rfl (Nat.le_of_ble_eq_true rfl) dX9_copy_8 z2 (fun _ _ h => c_X9_isSheet hG  h) hf (fun x2 M H locs hP hS bx2 hf => ?_)
    refine r_if_ne (tgt := 17) S dX9_copy_11 (by decide) hf (fun hf => ?_) (fun hf => ?_)
    · refine lv_aload_n hx hb dX9_copy_17 rfl (lv_at hl 0 rfl) ?_
      refine gf_X9_32 S hK hP h0 dX9_copy_18 hf (fun x3 hx3 hf => ?_)
      refine lv_iload_n hx hb dX9_copy_21 rfl (lv_at hl 1 rfl) ?_
      refine r_aald22 S hK hP hx3 (ra22 hx3.1) dX9_copy_22 hf (fun x4 hx4 hf => ?_)
      refine lv_astore (lv' := [(6, .ref (ad x4)), (0, .ref (ad o)), (1, .int p1), (2, .int p2), (3, .int p3), (4, .int p4), (5, .int p5)]) hx hb dX9_copy_23 hl (by decide) rfl (fun ls hl => ?_)
      refine lv_aload_n hx hb dX9_copy_25 rfl (lv_at hl 1 rfl) ?_
      refine gf_X9_32 S hK hP h0 dX9_copy_26 hf (fun x5 hx5 hf => ?_)
      refine lv_iload_n hx hb dX9_copy_29 rfl (lv_at hl 4 rfl) ?_
      refine r_aald22 S hK hP hx5 (ra22 hx5.1) dX9_copy_30 hf (fun x6 hx6 hf => ?_)
      refine lv_astore (lv' := [(7, .ref (ad x6)), (6, .ref (ad x4)), (0, .ref (ad o)), (1, .int p1), (2, .int p2), (3, .int p3), (4, .int p4), (5, .int p5)]) hx hb dX9_copy_31 hl (by decide) rfl (fun ls hl => ?_)
      refine lv_aload hx hb dX9_copy_33 (lv_at hl 1 rfl) ?_
      refine gf_X9_288 S hK hP hx4 dX9_copy_35 hf (fun x7 hf => ?_)
      refine lv_iconst (v := (-1)) hx hb dX9_copy_38 (by decide) ?_
      refine r_icmp_eq (tgt := 51) S dX9_copy_39 (by decide) hf (fun hf => ?_) (fun hf => ?_)
      · refine lv_ldcw (v := (-1000000011)) hx hb hown (ht _ k_988) dX9_copy_51 ?_
        exact hret _ _ _ _ _ _ dX9_copy_54 hP hS rfl hf
      · refine lv_aload hx hb dX9_copy_42 (lv_at hl 0 rfl) ?_
        refine gf_X9_288 S hK hP hx6 dX9_copy_44 hf (fun x8 hf => ?_)
        refine lv_iconst (v := (-1)) hx hb dX9_copy_47 (by decide) ?_
        refine r_icmp_ne (tgt := 55) S dX9_copy_48 (by decide) hf (fun hf => ?_) (fun hf => ?_)
        · refine lv_aload hx hb dX9_copy_55 (lv_at hl 1 rfl) ?_
          refine gf_X9_288 S hK hP hx4 dX9_copy_57 hf (fun x9 hf => ?_)
          refine lv_aload hx hb dX9_copy_60 (lv_at hl 0 rfl) ?_
          refine gf_X9_288 S hK hP hx6 dX9_copy_62 hf (fun x10 hf => ?_)
          refine r_icmp_eq (tgt := 71) S dX9_copy_65 (by decide) hf (fun hf => ?_) (fun hf => ?_)
          · refine lv_aload hx hb dX9_copy_71 (lv_at hl 1 rfl) ?_
            refine lv_iload_n hx hb dX9_copy_73 rfl (lv_at hl 4 rfl) ?_
            refine lv_iload hx hb dX9_copy_74 (lv_at hl 7 rfl) ?_
            refine r_callV (As := [.int p2, .int p5]) (rest := []) S hK hE hst hP hS hx4 (by decide) rfl (cw_X9_303 ht ⟨Nat.le_of_ble_eq_true rfl, Nat.le_of_ble_eq_true rfl⟩) rfl hl.1 rfl (Nat.le_of_ble_eq_true rfl) dX9_copy_76 z2 (fun _ _ h => c_X4_hasRow hG  hx4 h) hf (fun x11 M H locs hP hS bx11 hf => ?_)
            refine r_if_eq (tgt := 94) S dX9_copy_79 (by decide) hf (fun hf => ?_) (fun hf => ?_)
            · refine lv_ldcw (v := (-1000000013)) hx hb hown (ht _ k_993) dX9_copy_94 ?_
              exact hret _ _ _ _ _ _ dX9_copy_97 hP hS rfl hf
            · refine lv_aload hx hb dX9_copy_82 (lv_at hl 0 rfl) ?_
              refine lv_iload hx hb dX9_copy_84 (lv_at hl 6 rfl) ?_
              refine lv_iload hx hb dX9_copy_86 (lv_at hl 7 rfl) ?_
              refine r_callV (As := [.int p4, .int p5]) (rest := []) S hK hE hst hP hS hx6 (by decide) rfl (cw_X9_303 ht ⟨Nat.le_of_ble_eq_true rfl, Nat.le_of_ble_eq_true rfl⟩) rfl hl.1 rfl (Nat.le_of_ble_eq_true rfl) dX9_copy_88 z2 (fun _ _ h => c_X4_hasRow hG  hx6 h) hf (fun x12 M H locs hP hS bx12 hf => ?_)
              refine r_if_ne (tgt := 98) S dX9_copy_91 (by decide) hf (fun hf => ?_) (fun hf => ?_)
              · refine lv_aload hx hb dX9_copy_98 (lv_at hl 1 rfl) ?_
                refine gf_X9_294 S hK hP hx4 dX9_copy_100 hf (fun x13 hx13 hf => ?_)
                refine lv_iload_n hx hb dX9_copy_103 rfl (lv_at hl 4 rfl) ?_
                refine lv_aload hx hb dX9_copy_104 (lv_at hl 0 rfl) ?_
                refine gf_X9_294 S hK hP hx6 dX9_copy_106 hf (fun x14 hx14 hf => ?_)
                refine lv_iload hx hb dX9_copy_109 (lv_at hl 6 rfl) ?_
                refine lv_iload hx hb dX9_copy_111 (lv_at hl 7 rfl) ?_
                refine r_copy S hK hG hP hS hx13 hx14 k_1013 k_729 k_728 k_80 hl.1 (Nat.le_of_ble_eq_true rfl) (Nat.le_of_ble_eq_true rfl) dX9_copy_113 hf (fun M H locs hP hS hf => ?_)
                refine lv_iload hx hb dX9_copy_116 (lv_at hl 7 rfl) ?_
                exact hret _ _ _ _ _ _ dX9_copy_118 hP hS rfl hf
              · refine lv_ldcw (v := (-1000000013)) hx hb hown (ht _ k_993) dX9_copy_94 ?_
                exact hret _ _ _ _ _ _ dX9_copy_97 hP hS rfl hf
          · refine lv_ldc (v := (-1000000012)) hx hb hown (ht _ k_520) dX9_copy_68 ?_
            exact hret _ _ _ _ _ _ dX9_copy_70 hP hS rfl hf
        · refine lv_ldcw (v := (-1000000011)) hx hb hown (ht _ k_988) dX9_copy_51 ?_
          exact hret _ _ _ _ _ _ dX9_copy_54 hP hS rfl hf
    · refine lv_ldc (v := (-1000000001)) hx hb hown (ht _ k_405) dX9_copy_14 ?_
      exact hret _ _ _ _ _ _ dX9_copy_16 hP hS rfl hf
def f_X9_isSlot (p0 : Int32) (M : Mem) : Option (Int32 × Mem) :=
  bd (f_X9_within p0 0 4 M) fun x1 M =>
  some (x1, M)
def rm_X9_isSlot : Room := { frames := 1, cells := 0, slots := 0, locals := 22 }
set_option maxHeartbeats 4000000 in
set_option maxRecDepth 100000 in
theorem c_X9_isSlot {l : Launch} {D : va_G} {K : Ks} {ad : Nat → Nat} {A : Nat → Prop} {tC tA tP : Nat} {kK kV : Nat → Nat} (hG : Gok G1 ad A) {p0 : Int32}  {M : Mem} {r : Int32} {M' : Mem} (hf : f_X9_isSlot p0 M = some (r, M')) : Ct l (E1 A tC tA tP kK kV) D K G1 ad A yX9_isSlot (ws_of yX9_isSlot cX9_isSlot 1 (some .boolean)) rm_X9_isSlot .boolean [.int p0] M r M' := by
  have hst : Est A (E1 A tC tA tP kK kV) := est1
  refine Ct.ofW (by decide) (Nat.le_of_ble_eq_true rfl) ?_
  intro p e s m args below meth c Q H locs ls S hK hE hP hS hl hret
  have hx := S.1
  have hb := S.2.1
  have hown := S.2.2.2.1
  have ht := S.2.2.2.2
  have hl : lv_has ls 1 [(0, .int p0)] := hl
  unfold f_X9_isSlot at hf
  refine lv_iload_n hx hb dX9_isSlot_0 rfl (lv_at hl 0 rfl) ?_
  refine lv_iconst (v := 0) hx hb dX9_isSlot_1 (by decide) ?_
  refine lv_iconst (v := 4) hx hb dX9_isSlot_2 (by decide) ?_
  refine r_callS (As := [.int p0, .int 0, .int 4]) (rest := []) S hK hE hst hP hS (cw_X9_44 ht ⟨Nat.le_of_ble_eq_true rfl, Nat.le_of_ble_eq_true rfl⟩) rfl hl.1 rfl (Nat.le_of_ble_eq_true rfl) dX9_isSlot_3 z2 (fun _ _ h => c_X9_within hG  h) hf (fun x1 M H locs hP hS bx1 hf => ?_)
  exact hret _ _ _ _ _ _ dX9_isSlot_6 hP hS bx1 hf
theorem cw_X9_312 {R : Room} {s : State} {args : Array Value} (ht : ∀ w ∈ Tw, w.before args s = true) (hR : rm_X9_isSlot.frames + 1 ≤ R.frames ∧ 8 + (1 + 11) + rm_X9_isSlot.locals ≤ R.locals) : CallB R s args RX9 312 yX9_isSlot cX9_isSlot 1 (some .boolean) (ws_of yX9_isSlot cX9_isSlot 1 (some .boolean)) rm_X9_isSlot 0 0 1 ∧ (Cond.static yX9_isSlot).before args s = true := cw_S 1 ht k_1018 k_1019 k_63 k_1020 (by decide +kernel) rfl rfl hR
theorem cw_X9_318 {R : Room} {s : State} {args : Array Value} (ht : ∀ w ∈ Tw, w.before args s = true) (hR : rm_X5_holdFigure.frames + 1 ≤ R.frames ∧ 8 + (3 + 11) + rm_X5_holdFigure.locals ≤ R.locals) : CallW R s args RX9 RX5 318 yX5_holdFigure cX5_holdFigure 3 none (ws_of yX5_holdFigure cX5_holdFigure 3 none) rm_X5_holdFigure 0 0 2 := cw_V 2 ht k_1021 k_1022 k_1023 k_72 k_1024 (by decide +kernel) rfl rfl hR
theorem cw_X9_325 {R : Room} {s : State} {args : Array Value} (ht : ∀ w ∈ Tw, w.before args s = true) (hR : rm_X4_become.frames + 1 ≤ R.frames ∧ 8 + (2 + 11) + rm_X4_become.locals ≤ R.locals) : CallW R s args RX9 RX4 325 yX4_become cX4_become 2 none (ws_of yX4_become cX4_become 2 none) rm_X4_become 0 0 1 := cw_V 1 ht k_1025 k_1026 k_1027 k_71 k_1028 (by decide +kernel) rfl rfl hR
section
variable {p : Program} {l : Launch} {e : Env} {R : Room} {s : State} {m : MethodId} {args : Array Value} {below : List Frame} {meth : Method} {c : Code} {H : Heap} {locs : List Loc} {cells slots : Nat} {Q : State → Prop} {cc : ByteArray} {pc : Nat} {ls : Array Slot} {rest : List Value} {nL : Nat} {D : va_G} {K : Ks} {ad : Nat → Nat} {A : Nat → Prop} {M : Mem} {β : Type} {z : β}
theorem gf_X9_315 (S : CallFix p m c cc nL s args Tw RX9) (hK : va_K D classes (gty K) s) (hP : va_P D classes (gws K G1 ad M) H) {a : Nat} {kk : Int32 → Option β} (ha : gcl G1 a = 5) (hdg : decode cc pc = .ok (.getfield 315, 3)) (hf : vv (M a 0) kk = some z) (w : ∀ x, kk x = some z → W p l e R s m args below meth c H locs cells slots Q (F0 m (pc + 3) ls (.int x :: rest))) : W p l e R s m args below meth c H locs cells slots Q (F0 m pc ls (.ref (ad a) :: rest)) := r_geti S hK hP (T := TX5) inX5 rfl (by decide) (by decide) ha (sf_X5_0 ha) k_354 hdg hf w
end
section
variable {p : Program} {l : Launch} {e : Env} {R : Room} {s : State} {m : MethodId} {args : Array Value} {below : List Frame} {meth : Method} {c : Code} {H : Heap} {locs : List Loc} {cells slots : Nat} {Q : State → Prop} {cc : ByteArray} {pc : Nat} {ls : Array Slot} {rest : List Value} {nL : Nat} {D : va_G} {K : Ks} {ad : Nat → Nat} {A : Nat → Prop} {M : Mem} {β : Type} {z : β}
theorem gf_X9_321 (S : CallFix p m c cc nL s args Tw RX9) (hK : va_K D classes (gty K) s) (hP : va_P D classes (gws K G1 ad M) H) {a : Nat} {kk : Nat → Option β} (ha : gcl G1 a = 5) (hdg : decode cc pc = .ok (.getfield 321, 3)) (hf : vv (grf G1 a 4) kk = some z) (w : ∀ b, gcl G1 b = 4 → kk b = some z → W p l e R s m args below meth c H locs cells slots Q (F0 m (pc + 3) ls (.ref (ad b) :: rest))) : W p l e R s m args below meth c H locs cells slots Q (F0 m pc ls (.ref (ad a) :: rest)) := r_getr S hK hP (T := TX5) inX5 rfl (by decide) (by decide) ha (sf_X5_4 ha).1 k_361 hdg hf (fun b e => w b (by rw [e]; exact (sf_X5_4 ha).2))
end
section
variable {p : Program} {l : Launch} {e : Env} {R : Room} {s : State} {m : MethodId} {args : Array Value} {below : List Frame} {meth : Method} {c : Code} {H : Heap} {locs : List Loc} {cells slots : Nat} {Q : State → Prop} {cc : ByteArray} {pc : Nat} {ls : Array Slot} {rest : List Value} {nL : Nat} {D : va_G} {K : Ks} {ad : Nat → Nat} {A : Nat → Prop} {M : Mem} {β : Type} {z : β}
theorem gf_X9_38 (S : CallFix p m c cc nL s args Tw RX9) (hK : va_K D classes (gty K) s) (hP : va_P D classes (gws K G1 ad M) H) {a : Nat} {kk : Nat → Option β} (ha : gcl G1 a = 9) (hdg : decode cc pc = .ok (.getfield 38, 3)) (hf : vv (grf G1 a 7) kk = some z) (w : ∀ b, gcl G1 b = 23 ∧ gsz G1 b = 5 → kk b = some z → W p l e R s m args below meth c H locs cells slots Q (F0 m (pc + 3) ls (.ref (ad b) :: rest))) : W p l e R s m args below meth c H locs cells slots Q (F0 m pc ls (.ref (ad a) :: rest)) := r_getr S hK hP (T := TX9) inX9 rfl (by decide) (by decide) ha (sf_X9_7 ha).1 k_380 hdg hf (fun b e => w b (by rw [e]; exact (sf_X9_7 ha).2))
end
section
variable {p : Program} {l : Launch} {e : Env} {R : Room} {s : State} {m : MethodId} {args : Array Value} {below : List Frame} {meth : Method} {c : Code} {H : Heap} {locs : List Loc} {cells slots : Nat} {Q : State → Prop} {cc : ByteArray} {pc : Nat} {ls : Array Slot} {rest : List Value} {nL : Nat} {D : va_G} {K : Ks} {ad : Nat → Nat} {A : Nat → Prop} {M : Mem} {β : Type} {z : β}
theorem pf_X9_315 (S : CallFix p m c cc nL s args Tw RX9) (hK : va_K D classes (gty K) s) (hG : Gok G1 ad A) (hP : va_P D classes (gws K G1 ad M) H) (hS : va_S A s.heap H locs) {a : Nat} {v : Int32} {kk : Mem → Option β} (ha : gcl G1 a = 5) (hdg : decode cc pc = .ok (.putfield 315, 3)) (hf : mm (up M a 0 v) kk = some z) (w : ∀ M H locs, va_P D classes (gws K G1 ad M) H → va_S A s.heap H locs → kk M = some z → W p l e R s m args below meth c H locs cells slots Q (F0 m (pc + 3) ls rest)) : W p l e R s m args below meth c H locs cells slots Q (F0 m pc ls (.int v :: .ref (ad a) :: rest)) := r_putt S hK hG hP hS (k := 0) (T := TX5) inX5 rfl (by decide) tyX5 tyX5_ok nmX5 (by decide) rfl rfl rfl ha (sf_X5_0 ha) k_354 hdg hf w
end
section
variable {p : Program} {l : Launch} {e : Env} {R : Room} {s : State} {m : MethodId} {args : Array Value} {below : List Frame} {meth : Method} {c : Code} {H : Heap} {locs : List Loc} {cells slots : Nat} {Q : State → Prop} {cc : ByteArray} {pc : Nat} {ls : Array Slot} {rest : List Value} {nL : Nat} {D : va_G} {K : Ks} {ad : Nat → Nat} {A : Nat → Prop} {M : Mem} {β : Type} {z : β}
theorem pf_X9_329 (S : CallFix p m c cc nL s args Tw RX9) (hK : va_K D classes (gty K) s) (hG : Gok G1 ad A) (hP : va_P D classes (gws K G1 ad M) H) (hS : va_S A s.heap H locs) {a : Nat} {v : Int32} {kk : Mem → Option β} (ha : gcl G1 a = 5) (hdg : decode cc pc = .ok (.putfield 329, 3)) (hf : mm (up M a 3 v) kk = some z) (w : ∀ M H locs, va_P D classes (gws K G1 ad M) H → va_S A s.heap H locs → kk M = some z → W p l e R s m args below meth c H locs cells slots Q (F0 m (pc + 3) ls rest)) : W p l e R s m args below meth c H locs cells slots Q (F0 m pc ls (.int v :: .ref (ad a) :: rest)) := r_putt S hK hG hP hS (k := 3) (T := TX5) inX5 rfl (by decide) tyX5 tyX5_ok nmX5 (by decide) rfl rfl rfl ha (sf_X5_3 ha) k_359 hdg hf w
end
def f_X9_lay (o : Nat) (p1 : Int32) (p2 : Int32) (p3 : Int32) (M : Mem) : Option (Int32 × Mem) :=
  bd (f_X9_isSlot p1 M) fun x1 M =>
  if x1 = 0 then
    some ((-1000000001), M)
  else
    bd (f_X9_within p2 0 3 M) fun x2 M =>
    if x2 = 0 then
      some ((-1000000001), M)
    else
      jn (fun (M : Mem) =>
        jn (fun (M : Mem) =>
          jn (fun (M : Mem) =>
            vv (grf G1 o 7) fun x6 =>
            la G1 x6 p1 5 fun x7 =>
            vv (M x7 0) fun x8 =>
            mm (up M x7 0 p2) fun M =>
            jn (fun (M : Mem) =>
              jn (fun (M : Mem) =>
                if p2 = 3 then
                  mm (up M x7 3 p3) fun M =>
                  some (x8, M)
                else
                  some (x8, M)
              ) fun k10 =>
              if p2 = 2 then
                vv (grf G1 x7 4) fun x11 =>
                vv (grf G1 o 6) fun x12 =>
                la G1 x12 p3 4 fun x13 =>
                bd (f_X4_become x11 x13 M) fun _ M =>
                k10 M
              else
                k10 M
            ) fun k9 =>
            if p2 = 1 then
              vv (grf G1 o 0) fun x15 =>
              vv (grf G1 x15 0) fun x16 =>
              vv (grf G1 x16 4) fun x17 =>
              ld M x17 p3 40 fun x18 =>
              vv (grf G1 o 0) fun x19 =>
              vv (grf G1 x19 0) fun x20 =>
              vv (grf G1 x20 6) fun x21 =>
              ld M x21 p3 40 fun x22 =>
              bd (f_X5_holdFigure x7 x18 x22 M) fun _ M =>
              k9 M
            else
              k9 M
          ) fun k5 =>
          if p2 = 2 then
            vv (grf G1 o 6) fun x24 =>
            la G1 x24 p3 4 fun x25 =>
            vv (M x25 0) fun x26 =>
            if x26 = (-1) then
              some ((-1000000011), M)
            else
              k5 M
          else
            k5 M
        ) fun k4 =>
        if p2 = 2 then
          bd (f_X9_isSheet p3 M) fun x27 M =>
          if x27 = 0 then
            some ((-1000000001), M)
          else
            k4 M
        else
          k4 M
      ) fun k3 =>
      if p2 = 1 then
        vv (grf G1 o 0) fun x28 =>
        vv (grf G1 x28 0) fun x29 =>
        bd (f_X0_has x29 p3 M) fun x30 M =>
        if x30 = 0 then
          some ((-1000000001), M)
        else
          k3 M
      else
        k3 M
def rm_X9_lay : Room := { frames := 2, cells := 0, slots := 0, locals := 81 }
set_option maxHeartbeats 4000000 in
set_option maxRecDepth 100000 in
theorem c_X9_lay {l : Launch} {D : va_G} {K : Ks} {ad : Nat → Nat} {A : Nat → Prop} {tC tA tP : Nat} {kK kV : Nat → Nat} (hG : Gok G1 ad A) {o : Nat} {p1 : Int32} {p2 : Int32} {p3 : Int32} (h0 : gcl G1 o = 9) {M : Mem} {r : Int32} {M' : Mem} (hf : f_X9_lay o p1 p2 p3 M = some (r, M')) : Ct l (E1 A tC tA tP kK kV) D K G1 ad A yX9_lay (ws_of yX9_lay cX9_lay 6 (some .int)) rm_X9_lay .int [.ref (ad o), .int p1, .int p2, .int p3] M r M' := by
  have hst : Est A (E1 A tC tA tP kK kV) := est1
  refine Ct.ofW (by decide) (Nat.le_of_ble_eq_true rfl) ?_
  intro p e s m args below meth c Q H locs ls S hK hE hP hS hl hret
  have hx := S.1
  have hb := S.2.1
  have hown := S.2.2.2.1
  have ht := S.2.2.2.2
  have hl : lv_has ls 6 [(0, .ref (ad o)), (1, .int p1), (2, .int p2), (3, .int p3)] := hl
  unfold f_X9_lay at hf
  refine lv_iload_n hx hb dX9_lay_0 rfl (lv_at hl 1 rfl) ?_
  refine r_callS (As := [.int p1]) (rest := []) S hK hE hst hP hS (cw_X9_312 ht ⟨Nat.le_of_ble_eq_true rfl, Nat.le_of_ble_eq_true rfl⟩) rfl hl.1 rfl (Nat.le_of_ble_eq_true rfl) dX9_lay_1 z2 (fun _ _ h => c_X9_isSlot hG  h) hf (fun x1 M H locs hP hS bx1 hf => ?_)
  refine r_if_eq (tgt := 16) S dX9_lay_4 (by decide) hf (fun hf => ?_) (fun hf => ?_)
  · refine lv_ldc (v := (-1000000001)) hx hb hown (ht _ k_405) dX9_lay_16 ?_
    exact hret _ _ _ _ _ _ dX9_lay_18 hP hS rfl hf
  · refine lv_iload_n hx hb dX9_lay_7 rfl (lv_at hl 2 rfl) ?_
    refine lv_iconst (v := 0) hx hb dX9_lay_8 (by decide) ?_
    refine lv_iconst (v := 3) hx hb dX9_lay_9 (by decide) ?_
    refine r_callS (As := [.int p2, .int 0, .int 3]) (rest := []) S hK hE hst hP hS (cw_X9_44 ht ⟨Nat.le_of_ble_eq_true rfl, Nat.le_of_ble_eq_true rfl⟩) rfl hl.1 rfl (Nat.le_of_ble_eq_true rfl) dX9_lay_10 z2 (fun _ _ h => c_X9_within hG  h) hf (fun x2 M H locs hP hS bx2 hf => ?_)
    refine r_if_ne (tgt := 19) S dX9_lay_13 (by decide) hf (fun hf => ?_) (fun hf => ?_)
    · refine lv_iload_n hx hb dX9_lay_19 rfl (lv_at hl 2 rfl) ?_
      refine lv_iconst (v := 1) hx hb dX9_lay_20 (by decide) ?_
      obtain ⟨k3, hk3, hf⟩ := jn_w hf
      have J3 : ∀ (M : Mem) (H : Heap) (locs : List Loc) (ls : Array Slot), lv_has ls 6 [(0, .ref (ad o)), (1, .int p1), (2, .int p2), (3, .int p3)] → va_P D classes (gws K G1 ad M) H → va_S A s.heap H locs → k3 M = some (r, M') → W p l e rm_X9_lay s m args below meth c H locs 0 0 Q (F0 m 41 ls []) := by
        intro M H locs ls hl hP hS hf
        rw [hk3] at hf
        refine lv_iload_n hx hb dX9_lay_41 rfl (lv_at hl 2 rfl) ?_
        refine lv_iconst (v := 2) hx hb dX9_lay_42 (by decide) ?_
        obtain ⟨k4, hk4, hf⟩ := jn_w hf
        have J4 : ∀ (M : Mem) (H : Heap) (locs : List Loc) (ls : Array Slot), lv_has ls 6 [(0, .ref (ad o)), (1, .int p1), (2, .int p2), (3, .int p3)] → va_P D classes (gws K G1 ad M) H → va_S A s.heap H locs → k4 M = some (r, M') → W p l e rm_X9_lay s m args below meth c H locs 0 0 Q (F0 m 56 ls []) := by
          intro M H locs ls hl hP hS hf
          rw [hk4] at hf
          refine lv_iload_n hx hb dX9_lay_56 rfl (lv_at hl 2 rfl) ?_
          refine lv_iconst (v := 2) hx hb dX9_lay_57 (by decide) ?_
          obtain ⟨k5, hk5, hf⟩ := jn_w hf
          have J5 : ∀ (M : Mem) (H : Heap) (locs : List Loc) (ls : Array Slot), lv_has ls 6 [(0, .ref (ad o)), (1, .int p1), (2, .int p2), (3, .int p3)] → va_P D classes (gws K G1 ad M) H → va_S A s.heap H locs → k5 M = some (r, M') → W p l e rm_X9_lay s m args below meth c H locs 0 0 Q (F0 m 78 ls []) := by
            intro M H locs ls hl hP hS hf
            rw [hk5] at hf
            refine lv_aload_n hx hb dX9_lay_78 rfl (lv_at hl 0 rfl) ?_
            refine gf_X9_38 S hK hP h0 dX9_lay_79 hf (fun x6 hx6 hf => ?_)
            refine lv_iload_n hx hb dX9_lay_82 rfl (lv_at hl 1 rfl) ?_
            refine r_aald23 S hK hP hx6 (ra23 hx6.1) dX9_lay_83 hf (fun x7 hx7 hf => ?_)
            refine lv_astore (lv' := [(4, .ref (ad x7)), (0, .ref (ad o)), (1, .int p1), (2, .int p2), (3, .int p3)]) hx hb dX9_lay_84 hl (by decide) rfl (fun ls hl => ?_)
            refine lv_aload hx hb dX9_lay_86 (lv_at hl 0 rfl) ?_
            refine gf_X9_315 S hK hP hx7 dX9_lay_88 hf (fun x8 hf => ?_)
            refine lv_istore (lv' := [(5, .int x8), (4, .ref (ad x7)), (0, .ref (ad o)), (1, .int p1), (2, .int p2), (3, .int p3)]) hx hb dX9_lay_91 hl (by decide) rfl (fun ls hl => ?_)
            refine lv_aload hx hb dX9_lay_93 (lv_at hl 1 rfl) ?_
            refine lv_iload_n hx hb dX9_lay_95 rfl (lv_at hl 4 rfl) ?_
            refine pf_X9_315 S hK hG hP hS hx7 dX9_lay_96 hf (fun M H locs hP hS hf => ?_)
            refine lv_iload_n hx hb dX9_lay_99 rfl (lv_at hl 4 rfl) ?_
            refine lv_iconst (v := 1) hx hb dX9_lay_100 (by decide) ?_
            obtain ⟨k9, hk9, hf⟩ := jn_w hf
            have J9 : ∀ (M : Mem) (H : Heap) (locs : List Loc) (ls : Array Slot), lv_has ls 6 [(0, .ref (ad o)), (2, .int p2), (3, .int p3), (4, .ref (ad x7)), (5, .int x8)] → va_P D classes (gws K G1 ad M) H → va_S A s.heap H locs → k9 M = some (r, M') → W p l e rm_X9_lay s m args below meth c H locs 0 0 Q (F0 m 133 ls []) := by
              intro M H locs ls hl hP hS hf
              rw [hk9] at hf
              refine lv_iload_n hx hb dX9_lay_133 rfl (lv_at hl 1 rfl) ?_
              refine lv_iconst (v := 2) hx hb dX9_lay_134 (by decide) ?_
              obtain ⟨k10, hk10, hf⟩ := jn_w hf
              have J10 : ∀ (M : Mem) (H : Heap) (locs : List Loc) (ls : Array Slot), lv_has ls 6 [(2, .int p2), (3, .int p3), (4, .ref (ad x7)), (5, .int x8)] → va_P D classes (gws K G1 ad M) H → va_S A s.heap H locs → k10 M = some (r, M') → W p l e rm_X9_lay s m args below meth c H locs 0 0 Q (F0 m 152 ls []) := by
                intro M H locs ls hl hP hS hf
                rw [hk10] at hf
                refine lv_iload_n hx hb dX9_lay_152 rfl (lv_at hl 0 rfl) ?_
                refine lv_iconst (v := 3) hx hb dX9_lay_153 (by decide) ?_
                refine r_icmp_ne (tgt := 163) S dX9_lay_154 (by decide) hf (fun hf => ?_) (fun hf => ?_)
                · refine lv_iload hx hb dX9_lay_163 (lv_at hl 3 rfl) ?_
                  exact hret _ _ _ _ _ _ dX9_lay_165 hP hS rfl hf
                · refine lv_aload hx hb dX9_lay_157 (lv_at hl 2 rfl) ?_
                  refine lv_iload_n hx hb dX9_lay_159 rfl (lv_at hl 1 rfl) ?_
                  refine pf_X9_329 S hK hG hP hS hx7 dX9_lay_160 hf (fun M H locs hP hS hf => ?_)
                  refine lv_iload hx hb dX9_lay_163 (lv_at hl 3 rfl) ?_
                  exact hret _ _ _ _ _ _ dX9_lay_165 hP hS rfl hf
              refine r_icmp_ne (tgt := 152) S dX9_lay_135 (by decide) hf (fun hf => ?_) (fun hf => ?_)
              · exact J10 M H locs ls (lv_sub hl [1, 2, 3, 4] rfl) hP hS hf
              · refine lv_aload hx hb dX9_lay_138 (lv_at hl 3 rfl) ?_
                refine gf_X9_321 S hK hP hx7 dX9_lay_140 hf (fun x11 hx11 hf => ?_)
                refine lv_aload_n hx hb dX9_lay_143 rfl (lv_at hl 0 rfl) ?_
                refine gf_X9_32 S hK hP h0 dX9_lay_144 hf (fun x12 hx12 hf => ?_)
                refine lv_iload_n hx hb dX9_lay_147 rfl (lv_at hl 2 rfl) ?_
                refine r_aald22 S hK hP hx12 (ra22 hx12.1) dX9_lay_148 hf (fun x13 hx13 hf => ?_)
                refine r_callVv (As := [.ref (ad x13)]) (rest := []) S hK hE hst hP hS hx11 (by decide) rfl (cw_X9_325 ht ⟨Nat.le_of_ble_eq_true rfl, Nat.le_of_ble_eq_true rfl⟩) rfl hl.1 rfl (Nat.le_of_ble_eq_true rfl) dX9_lay_149 z2 (fun _ _ h => c_X4_become hG  hx11 hx13 h) hf (fun x14 M H locs hP hS hf => ?_)
                exact J10 M H locs ls (lv_sub hl [1, 2, 3, 4] rfl) hP hS hf
            refine r_icmp_ne (tgt := 133) S dX9_lay_101 (by decide) hf (fun hf => ?_) (fun hf => ?_)
            · exact J9 M H locs ls (lv_sub hl [2, 4, 5, 1, 0] rfl) hP hS hf
            · refine lv_aload hx hb dX9_lay_104 (lv_at hl 1 rfl) ?_
              refine lv_aload_n hx hb dX9_lay_106 rfl (lv_at hl 2 rfl) ?_
              refine gf_X9_10 S hK hP h0 dX9_lay_107 hf (fun x15 hx15 hf => ?_)
              refine gf_X9_49 S hK hP hx15 dX9_lay_110 hf (fun x16 hx16 hf => ?_)
              refine gf_X9_84 S hK hP hx16 dX9_lay_113 hf (fun x17 hx17 hf => ?_)
              refine lv_iload_n hx hb dX9_lay_116 rfl (lv_at hl 5 rfl) ?_
              refine r_iald S hK hP hx17 dX9_lay_117 hf (fun x18 hf => ?_)
              refine lv_aload_n hx hb dX9_lay_118 rfl (lv_at hl 2 rfl) ?_
              refine gf_X9_10 S hK hP h0 dX9_lay_119 hf (fun x19 hx19 hf => ?_)
              refine gf_X9_49 S hK hP hx19 dX9_lay_122 hf (fun x20 hx20 hf => ?_)
              refine gf_X9_90 S hK hP hx20 dX9_lay_125 hf (fun x21 hx21 hf => ?_)
              refine lv_iload_n hx hb dX9_lay_128 rfl (lv_at hl 5 rfl) ?_
              refine r_iald S hK hP hx21 dX9_lay_129 hf (fun x22 hf => ?_)
              refine r_callVv (As := [.int x18, .int x22]) (rest := []) S hK hE hst hP hS hx7 (by decide) rfl (cw_X9_318 ht ⟨Nat.le_of_ble_eq_true rfl, Nat.le_of_ble_eq_true rfl⟩) rfl hl.1 rfl (Nat.le_of_ble_eq_true rfl) dX9_lay_130 z2 (fun _ _ h => c_X5_holdFigure hG  hx7 h) hf (fun x23 M H locs hP hS hf => ?_)
              exact J9 M H locs ls (lv_sub hl [2, 4, 5, 1, 0] rfl) hP hS hf
          refine r_icmp_ne (tgt := 78) S dX9_lay_58 (by decide) hf (fun hf => ?_) (fun hf => ?_)
          · exact J5 M H locs ls (lv_sub hl [0, 1, 2, 3] rfl) hP hS hf
          · refine lv_aload_n hx hb dX9_lay_61 rfl (lv_at hl 0 rfl) ?_
            refine gf_X9_32 S hK hP h0 dX9_lay_62 hf (fun x24 hx24 hf => ?_)
            refine lv_iload_n hx hb dX9_lay_65 rfl (lv_at hl 3 rfl) ?_
            refine r_aald22 S hK hP hx24 (ra22 hx24.1) dX9_lay_66 hf (fun x25 hx25 hf => ?_)
            refine gf_X9_288 S hK hP hx25 dX9_lay_67 hf (fun x26 hf => ?_)
            refine lv_iconst (v := (-1)) hx hb dX9_lay_70 (by decide) ?_
            refine r_icmp_ne (tgt := 78) S dX9_lay_71 (by decide) hf (fun hf => ?_) (fun hf => ?_)
            · exact J5 M H locs ls (lv_sub hl [0, 1, 2, 3] rfl) hP hS hf
            · refine lv_ldcw (v := (-1000000011)) hx hb hown (ht _ k_988) dX9_lay_74 ?_
              exact hret _ _ _ _ _ _ dX9_lay_77 hP hS rfl hf
        refine r_icmp_ne (tgt := 56) S dX9_lay_43 (by decide) hf (fun hf => ?_) (fun hf => ?_)
        · exact J4 M H locs ls (lv_sub hl [0, 1, 2, 3] rfl) hP hS hf
        · refine lv_iload_n hx hb dX9_lay_46 rfl (lv_at hl 3 rfl) ?_
          refine r_callS (As := [.int p3]) (rest := []) S hK hE hst hP hS (cw_X9_281 ht ⟨Nat.le_of_ble_eq_true rfl, Nat.le_of_ble_eq_true rfl⟩) rfl hl.1 rfl (Nat.le_of_ble_eq_true rfl) dX9_lay_47 z2 (fun _ _ h => c_X9_isSheet hG  h) hf (fun x27 M H locs hP hS bx27 hf => ?_)
          refine r_if_ne (tgt := 56) S dX9_lay_50 (by decide) hf (fun hf => ?_) (fun hf => ?_)
          · exact J4 M H locs ls (lv_sub hl [0, 1, 2, 3] rfl) hP hS hf
          · refine lv_ldc (v := (-1000000001)) hx hb hown (ht _ k_405) dX9_lay_53 ?_
            exact hret _ _ _ _ _ _ dX9_lay_55 hP hS rfl hf
      refine r_icmp_ne (tgt := 41) S dX9_lay_21 (by decide) hf (fun hf => ?_) (fun hf => ?_)
      · exact J3 M H locs ls (lv_sub hl [0, 1, 2, 3] rfl) hP hS hf
      · refine lv_aload_n hx hb dX9_lay_24 rfl (lv_at hl 0 rfl) ?_
        refine gf_X9_10 S hK hP h0 dX9_lay_25 hf (fun x28 hx28 hf => ?_)
        refine gf_X9_49 S hK hP hx28 dX9_lay_28 hf (fun x29 hx29 hf => ?_)
        refine lv_iload_n hx hb dX9_lay_31 rfl (lv_at hl 3 rfl) ?_
        refine r_callV (As := [.int p3]) (rest := []) S hK hE hst hP hS hx29 (by decide) rfl (cw_X9_69 ht ⟨Nat.le_of_ble_eq_true rfl, Nat.le_of_ble_eq_true rfl⟩) rfl hl.1 rfl (Nat.le_of_ble_eq_true rfl) dX9_lay_32 z2 (fun _ _ h => c_X0_has hG  hx29 h) hf (fun x30 M H locs hP hS bx30 hf => ?_)
        refine r_if_ne (tgt := 41) S dX9_lay_35 (by decide) hf (fun hf => ?_) (fun hf => ?_)
        · exact J3 M H locs ls (lv_sub hl [0, 1, 2, 3] rfl) hP hS hf
        · refine lv_ldc (v := (-1000000001)) hx hb hown (ht _ k_405) dX9_lay_38 ?_
          exact hret _ _ _ _ _ _ dX9_lay_40 hP hS rfl hf
    · refine lv_ldc (v := (-1000000001)) hx hb hown (ht _ k_405) dX9_lay_16 ?_
      exact hret _ _ _ _ _ _ dX9_lay_18 hP hS rfl hf
section
variable {p : Program} {l : Launch} {e : Env} {R : Room} {s : State} {m : MethodId} {args : Array Value} {below : List Frame} {meth : Method} {c : Code} {H : Heap} {locs : List Loc} {cells slots : Nat} {Q : State → Prop} {cc : ByteArray} {pc : Nat} {ls : Array Slot} {rest : List Value} {nL : Nat} {D : va_G} {K : Ks} {ad : Nat → Nat} {A : Nat → Prop} {M : Mem} {β : Type} {z : β}
theorem gf_X9_332 (S : CallFix p m c cc nL s args Tw RX9) (hK : va_K D classes (gty K) s) (hP : va_P D classes (gws K G1 ad M) H) {a : Nat} {kk : Int32 → Option β} (ha : gcl G1 a = 5) (hdg : decode cc pc = .ok (.getfield 332, 3)) (hf : vv (M a 1) kk = some z) (w : ∀ x, kk x = some z → W p l e R s m args below meth c H locs cells slots Q (F0 m (pc + 3) ls (.int x :: rest))) : W p l e R s m args below meth c H locs cells slots Q (F0 m pc ls (.ref (ad a) :: rest)) := r_geti S hK hP (T := TX5) inX5 rfl (by decide) (by decide) ha (sf_X5_1 ha) k_356 hdg hf w
end
section
variable {p : Program} {l : Launch} {e : Env} {R : Room} {s : State} {m : MethodId} {args : Array Value} {below : List Frame} {meth : Method} {c : Code} {H : Heap} {locs : List Loc} {cells slots : Nat} {Q : State → Prop} {cc : ByteArray} {pc : Nat} {ls : Array Slot} {rest : List Value} {nL : Nat} {D : va_G} {K : Ks} {ad : Nat → Nat} {A : Nat → Prop} {M : Mem} {β : Type} {z : β}
theorem gf_X9_334 (S : CallFix p m c cc nL s args Tw RX9) (hK : va_K D classes (gty K) s) (hP : va_P D classes (gws K G1 ad M) H) {a : Nat} {kk : Int32 → Option β} (ha : gcl G1 a = 5) (hdg : decode cc pc = .ok (.getfield 334, 3)) (hf : vv (M a 2) kk = some z) (w : ∀ x, kk x = some z → W p l e R s m args below meth c H locs cells slots Q (F0 m (pc + 3) ls (.int x :: rest))) : W p l e R s m args below meth c H locs cells slots Q (F0 m pc ls (.ref (ad a) :: rest)) := r_geti S hK hP (T := TX5) inX5 rfl (by decide) (by decide) ha (sf_X5_2 ha) k_358 hdg hf w
end
def f_X9_ask (o : Nat) (p1 : Int32) (p2 : Int32) (M : Mem) : Option (Int32 × Mem) :=
  bd (f_X9_isSlot p1 M) fun x1 M =>
  if x1 = 0 then
    some ((-1000000001), M)
  else
    bd (f_X9_isKind p2 M) fun x2 M =>
    if x2 = 0 then
      some ((-1000000001), M)
    else
      vv (grf G1 o 7) fun x3 =>
      la G1 x3 p1 5 fun x4 =>
      vv (M x4 0) fun x5 =>
      if x5 = 0 then
        some ((-1000000011), M)
      else
        vv (M x4 0) fun x6 =>
        if x6 = 1 then
          vv (M x4 1) fun x7 =>
          bd (f_X9_isOfKind x7 p2 M) fun x8 M =>
          if x8 = 0 then
            some ((-1000000012), M)
          else
            vv (M x4 1) fun x9 =>
            vv (M x4 2) fun x10 =>
            bd (f_X9_price x9 x10 M) fun x11 M =>
            some (x11, M)
        else
          some ((-1000000012), M)
def rm_X9_ask : Room := { frames := 3, cells := 0, slots := 0, locals := 65 }
set_option maxHeartbeats 4000000 in
set_option maxRecDepth 100000 in
theorem c_X9_ask {l : Launch} {D : va_G} {K : Ks} {ad : Nat → Nat} {A : Nat → Prop} {tC tA tP : Nat} {kK kV : Nat → Nat} (hG : Gok G1 ad A) {o : Nat} {p1 : Int32} {p2 : Int32} (h0 : gcl G1 o = 9) {M : Mem} {r : Int32} {M' : Mem} (hf : f_X9_ask o p1 p2 M = some (r, M')) : Ct l (E1 A tC tA tP kK kV) D K G1 ad A yX9_ask (ws_of yX9_ask cX9_ask 4 (some .int)) rm_X9_ask .int [.ref (ad o), .int p1, .int p2] M r M' := by
  have hst : Est A (E1 A tC tA tP kK kV) := est1
  refine Ct.ofW (by decide) (Nat.le_of_ble_eq_true rfl) ?_
  intro p e s m args below meth c Q H locs ls S hK hE hP hS hl hret
  have hx := S.1
  have hb := S.2.1
  have hown := S.2.2.2.1
  have ht := S.2.2.2.2
  have hl : lv_has ls 4 [(0, .ref (ad o)), (1, .int p1), (2, .int p2)] := hl
  unfold f_X9_ask at hf
  refine lv_iload_n hx hb dX9_ask_0 rfl (lv_at hl 1 rfl) ?_
  refine r_callS (As := [.int p1]) (rest := []) S hK hE hst hP hS (cw_X9_312 ht ⟨Nat.le_of_ble_eq_true rfl, Nat.le_of_ble_eq_true rfl⟩) rfl hl.1 rfl (Nat.le_of_ble_eq_true rfl) dX9_ask_1 z2 (fun _ _ h => c_X9_isSlot hG  h) hf (fun x1 M H locs hP hS bx1 hf => ?_)
  refine r_if_eq (tgt := 14) S dX9_ask_4 (by decide) hf (fun hf => ?_) (fun hf => ?_)
  · refine lv_ldc (v := (-1000000001)) hx hb hown (ht _ k_405) dX9_ask_14 ?_
    exact hret _ _ _ _ _ _ dX9_ask_16 hP hS rfl hf
  · refine lv_iload_n hx hb dX9_ask_7 rfl (lv_at hl 2 rfl) ?_
    refine r_callS (As := [.int p2]) (rest := []) S hK hE hst hP hS (cw_X9_63 ht ⟨Nat.le_of_ble_eq_true rfl, Nat.le_of_ble_eq_true rfl⟩) rfl hl.1 rfl (Nat.le_of_ble_eq_true rfl) dX9_ask_8 z2 (fun _ _ h => c_X9_isKind hG  h) hf (fun x2 M H locs hP hS bx2 hf => ?_)
    refine r_if_ne (tgt := 17) S dX9_ask_11 (by decide) hf (fun hf => ?_) (fun hf => ?_)
    · refine lv_aload_n hx hb dX9_ask_17 rfl (lv_at hl 0 rfl) ?_
      refine gf_X9_38 S hK hP h0 dX9_ask_18 hf (fun x3 hx3 hf => ?_)
      refine lv_iload_n hx hb dX9_ask_21 rfl (lv_at hl 1 rfl) ?_
      refine r_aald23 S hK hP hx3 (ra23 hx3.1) dX9_ask_22 hf (fun x4 hx4 hf => ?_)
      refine lv_astore_n (lv' := [(3, .ref (ad x4)), (0, .ref (ad o)), (1, .int p1), (2, .int p2)]) hx hb dX9_ask_23 rfl hl (by decide) rfl (fun ls hl => ?_)
      refine lv_aload_n hx hb dX9_ask_24 rfl (lv_at hl 0 rfl) ?_
      refine gf_X9_315 S hK hP hx4 dX9_ask_25 hf (fun x5 hf => ?_)
      refine r_if_ne (tgt := 35) S dX9_ask_28 (by decide) hf (fun hf => ?_) (fun hf => ?_)
      · refine lv_aload_n hx hb dX9_ask_35 rfl (lv_at hl 0 rfl) ?_
        refine gf_X9_315 S hK hP hx4 dX9_ask_36 hf (fun x6 hf => ?_)
        refine lv_iconst (v := 1) hx hb dX9_ask_39 (by decide) ?_
        refine r_icmp_ne (tgt := 54) S dX9_ask_40 (by decide) hf (fun hf => ?_) (fun hf => ?_)
        · refine lv_ldc (v := (-1000000012)) hx hb hown (ht _ k_520) dX9_ask_54 ?_
          exact hret _ _ _ _ _ _ dX9_ask_56 hP hS rfl hf
        · refine lv_aload_n hx hb dX9_ask_43 rfl (lv_at hl 0 rfl) ?_
          refine gf_X9_332 S hK hP hx4 dX9_ask_44 hf (fun x7 hf => ?_)
          refine lv_iload_n hx hb dX9_ask_47 rfl (lv_at hl 3 rfl) ?_
          refine r_callS (As := [.int x7, .int p2]) (rest := []) S hK hE hst hP hS (cw_X9_126 ht ⟨Nat.le_of_ble_eq_true rfl, Nat.le_of_ble_eq_true rfl⟩) rfl hl.1 rfl (Nat.le_of_ble_eq_true rfl) dX9_ask_48 z2 (fun _ _ h => c_X9_isOfKind hG  h) hf (fun x8 M H locs hP hS bx8 hf => ?_)
          refine r_if_ne (tgt := 57) S dX9_ask_51 (by decide) hf (fun hf => ?_) (fun hf => ?_)
          · refine lv_aload_n hx hb dX9_ask_57 rfl (lv_at hl 0 rfl) ?_
            refine gf_X9_332 S hK hP hx4 dX9_ask_58 hf (fun x9 hf => ?_)
            refine lv_aload_n hx hb dX9_ask_61 rfl (lv_at hl 0 rfl) ?_
            refine gf_X9_334 S hK hP hx4 dX9_ask_62 hf (fun x10 hf => ?_)
            refine r_callS (As := [.int x9, .int x10]) (rest := []) S hK hE hst hP hS (cw_X9_101 ht ⟨Nat.le_of_ble_eq_true rfl, Nat.le_of_ble_eq_true rfl⟩) rfl hl.1 rfl (Nat.le_of_ble_eq_true rfl) dX9_ask_65 z2 (fun _ _ h => c_X9_price hG  h) hf (fun x11 M H locs hP hS bx11 hf => ?_)
            exact hret _ _ _ _ _ _ dX9_ask_68 hP hS rfl hf
          · refine lv_ldc (v := (-1000000012)) hx hb hown (ht _ k_520) dX9_ask_54 ?_
            exact hret _ _ _ _ _ _ dX9_ask_56 hP hS rfl hf
      · refine lv_ldcw (v := (-1000000011)) hx hb hown (ht _ k_988) dX9_ask_31 ?_
        exact hret _ _ _ _ _ _ dX9_ask_34 hP hS rfl hf
    · refine lv_ldc (v := (-1000000001)) hx hb hown (ht _ k_405) dX9_ask_14 ?_
      exact hret _ _ _ _ _ _ dX9_ask_16 hP hS rfl hf
def f_X9_item (o : Nat) (p1 : Int32) (p2 : Int32) (M : Mem) : Option (Int32 × Mem) :=
  bd (f_X9_isSlot p1 M) fun x1 M =>
  if x1 = 0 then
    some ((-1000000001), M)
  else
    vv (grf G1 o 7) fun x2 =>
    la G1 x2 p1 5 fun x3 =>
    vv (M x3 0) fun x4 =>
    if x4 = 0 then
      some ((-1000000011), M)
    else
      vv (M x3 0) fun x5 =>
      if x5 = 2 then
        vv (grf G1 x3 4) fun x6 =>
        bd (f_X4_has x6 p2 M) fun x7 M =>
        if x7 = 0 then
          some ((-1000000013), M)
        else
          vv (grf G1 x3 4) fun x8 =>
          vv (grf G1 x8 2) fun x9 =>
          ld M x9 p2 24 fun x10 =>
          if x10 = (-1000000005) then
            some ((-1000000012), M)
          else
            vv (grf G1 x3 4) fun x11 =>
            vv (grf G1 x11 2) fun x12 =>
            ld M x12 p2 24 fun x13 =>
            some (x13, M)
      else
        some ((-1000000012), M)
def rm_X9_item : Room := { frames := 2, cells := 0, slots := 0, locals := 42 }
set_option maxHeartbeats 4000000 in
set_option maxRecDepth 100000 in
theorem c_X9_item {l : Launch} {D : va_G} {K : Ks} {ad : Nat → Nat} {A : Nat → Prop} {tC tA tP : Nat} {kK kV : Nat → Nat} (hG : Gok G1 ad A) {o : Nat} {p1 : Int32} {p2 : Int32} (h0 : gcl G1 o = 9) {M : Mem} {r : Int32} {M' : Mem} (hf : f_X9_item o p1 p2 M = some (r, M')) : Ct l (E1 A tC tA tP kK kV) D K G1 ad A yX9_item (ws_of yX9_item cX9_item 4 (some .int)) rm_X9_item .int [.ref (ad o), .int p1, .int p2] M r M' := by
  have hst : Est A (E1 A tC tA tP kK kV) := est1
  refine Ct.ofW (by decide) (Nat.le_of_ble_eq_true rfl) ?_
  intro p e s m args below meth c Q H locs ls S hK hE hP hS hl hret
  have hx := S.1
  have hb := S.2.1
  have hown := S.2.2.2.1
  have ht := S.2.2.2.2
  have hl : lv_has ls 4 [(0, .ref (ad o)), (1, .int p1), (2, .int p2)] := hl
  unfold f_X9_item at hf
  refine lv_iload_n hx hb dX9_item_0 rfl (lv_at hl 1 rfl) ?_
  refine r_callS (As := [.int p1]) (rest := []) S hK hE hst hP hS (cw_X9_312 ht ⟨Nat.le_of_ble_eq_true rfl, Nat.le_of_ble_eq_true rfl⟩) rfl hl.1 rfl (Nat.le_of_ble_eq_true rfl) dX9_item_1 z2 (fun _ _ h => c_X9_isSlot hG  h) hf (fun x1 M H locs hP hS bx1 hf => ?_)
  refine r_if_ne (tgt := 10) S dX9_item_4 (by decide) hf (fun hf => ?_) (fun hf => ?_)
  · refine lv_aload_n hx hb dX9_item_10 rfl (lv_at hl 0 rfl) ?_
    refine gf_X9_38 S hK hP h0 dX9_item_11 hf (fun x2 hx2 hf => ?_)
    refine lv_iload_n hx hb dX9_item_14 rfl (lv_at hl 1 rfl) ?_
    refine r_aald23 S hK hP hx2 (ra23 hx2.1) dX9_item_15 hf (fun x3 hx3 hf => ?_)
    refine lv_astore_n (lv' := [(3, .ref (ad x3)), (0, .ref (ad o)), (1, .int p1), (2, .int p2)]) hx hb dX9_item_16 rfl hl (by decide) rfl (fun ls hl => ?_)
    refine lv_aload_n hx hb dX9_item_17 rfl (lv_at hl 0 rfl) ?_
    refine gf_X9_315 S hK hP hx3 dX9_item_18 hf (fun x4 hf => ?_)
    refine r_if_ne (tgt := 28) S dX9_item_21 (by decide) hf (fun hf => ?_) (fun hf => ?_)
    · refine lv_aload_n hx hb dX9_item_28 rfl (lv_at hl 0 rfl) ?_
      refine gf_X9_315 S hK hP hx3 dX9_item_29 hf (fun x5 hf => ?_)
      refine lv_iconst (v := 2) hx hb dX9_item_32 (by decide) ?_
      refine r_icmp_eq (tgt := 39) S dX9_item_33 (by decide) hf (fun hf => ?_) (fun hf => ?_)
      · refine lv_aload_n hx hb dX9_item_39 rfl (lv_at hl 0 rfl) ?_
        refine gf_X9_321 S hK hP hx3 dX9_item_40 hf (fun x6 hx6 hf => ?_)
        refine lv_iload_n hx hb dX9_item_43 rfl (lv_at hl 3 rfl) ?_
        refine r_callV (As := [.int p2]) (rest := []) S hK hE hst hP hS hx6 (by decide) rfl (cw_X9_292 ht ⟨Nat.le_of_ble_eq_true rfl, Nat.le_of_ble_eq_true rfl⟩) rfl hl.1 rfl (Nat.le_of_ble_eq_true rfl) dX9_item_44 z2 (fun _ _ h => c_X4_has hG  hx6 h) hf (fun x7 M H locs hP hS bx7 hf => ?_)
        refine r_if_ne (tgt := 54) S dX9_item_47 (by decide) hf (fun hf => ?_) (fun hf => ?_)
        · refine lv_aload_n hx hb dX9_item_54 rfl (lv_at hl 0 rfl) ?_
          refine gf_X9_321 S hK hP hx3 dX9_item_55 hf (fun x8 hx8 hf => ?_)
          refine gf_X9_294 S hK hP hx8 dX9_item_58 hf (fun x9 hx9 hf => ?_)
          refine lv_iload_n hx hb dX9_item_61 rfl (lv_at hl 3 rfl) ?_
          refine r_iald S hK hP hx9 dX9_item_62 hf (fun x10 hf => ?_)
          refine lv_ldc (v := (-1000000005)) hx hb hown (ht _ k_439) dX9_item_63 ?_
          refine r_icmp_ne (tgt := 73) S dX9_item_65 (by decide) hf (fun hf => ?_) (fun hf => ?_)
          · refine lv_aload_n hx hb dX9_item_73 rfl (lv_at hl 0 rfl) ?_
            refine gf_X9_321 S hK hP hx3 dX9_item_74 hf (fun x11 hx11 hf => ?_)
            refine gf_X9_294 S hK hP hx11 dX9_item_77 hf (fun x12 hx12 hf => ?_)
            refine lv_iload_n hx hb dX9_item_80 rfl (lv_at hl 3 rfl) ?_
            refine r_iald S hK hP hx12 dX9_item_81 hf (fun x13 hf => ?_)
            exact hret _ _ _ _ _ _ dX9_item_82 hP hS rfl hf
          · refine lv_ldc (v := (-1000000012)) hx hb hown (ht _ k_520) dX9_item_68 ?_
            refine lv_goto (tgt := 82) hx hb dX9_item_70 (by decide) ?_
            exact hret _ _ _ _ _ _ dX9_item_82 hP hS rfl hf
        · refine lv_ldcw (v := (-1000000013)) hx hb hown (ht _ k_993) dX9_item_50 ?_
          exact hret _ _ _ _ _ _ dX9_item_53 hP hS rfl hf
      · refine lv_ldc (v := (-1000000012)) hx hb hown (ht _ k_520) dX9_item_36 ?_
        exact hret _ _ _ _ _ _ dX9_item_38 hP hS rfl hf
    · refine lv_ldcw (v := (-1000000011)) hx hb hown (ht _ k_988) dX9_item_24 ?_
      exact hret _ _ _ _ _ _ dX9_item_27 hP hS rfl hf
  · refine lv_ldc (v := (-1000000001)) hx hb hown (ht _ k_405) dX9_item_7 ?_
    exact hret _ _ _ _ _ _ dX9_item_9 hP hS rfl hf
section
variable {p : Program} {l : Launch} {e : Env} {R : Room} {s : State} {m : MethodId} {args : Array Value} {below : List Frame} {meth : Method} {c : Code} {H : Heap} {locs : List Loc} {cells slots : Nat} {Q : State → Prop} {cc : ByteArray} {pc : Nat} {ls : Array Slot} {rest : List Value} {nL : Nat} {D : va_G} {K : Ks} {ad : Nat → Nat} {A : Nat → Prop} {M : Mem} {β : Type} {z : β}
theorem gf_X9_329 (S : CallFix p m c cc nL s args Tw RX9) (hK : va_K D classes (gty K) s) (hP : va_P D classes (gws K G1 ad M) H) {a : Nat} {kk : Int32 → Option β} (ha : gcl G1 a = 5) (hdg : decode cc pc = .ok (.getfield 329, 3)) (hf : vv (M a 3) kk = some z) (w : ∀ x, kk x = some z → W p l e R s m args below meth c H locs cells slots Q (F0 m (pc + 3) ls (.int x :: rest))) : W p l e R s m args below meth c H locs cells slots Q (F0 m pc ls (.ref (ad a) :: rest)) := r_geti S hK hP (T := TX5) inX5 rfl (by decide) (by decide) ha (sf_X5_3 ha) k_359 hdg hf w
end
def f_X9_rest (o : Nat) (p1 : Int32) (p2 : Int32) (M : Mem) : Option (Int32 × Mem) :=
  bd (f_X9_isSlot p1 M) fun x1 M =>
  if x1 = 0 then
    some ((-1000000001), M)
  else
    vv (grf G1 o 7) fun x2 =>
    la G1 x2 p1 5 fun x3 =>
    vv (M x3 0) fun x4 =>
    if x4 = 0 then
      some ((-1000000011), M)
    else
      vv (M x3 0) fun x5 =>
      if x5 = 3 then
        if p2 = 0 then
          some ((-1000000002), M)
        else
          vv (M x3 3) fun x6 =>
          dv p2 <|
          some ((jr x6 p2), M)
      else
        some ((-1000000012), M)
def rm_X9_rest : Room := { frames := 2, cells := 0, slots := 0, locals := 42 }
set_option maxHeartbeats 4000000 in
set_option maxRecDepth 100000 in
theorem c_X9_rest {l : Launch} {D : va_G} {K : Ks} {ad : Nat → Nat} {A : Nat → Prop} {tC tA tP : Nat} {kK kV : Nat → Nat} (hG : Gok G1 ad A) {o : Nat} {p1 : Int32} {p2 : Int32} (h0 : gcl G1 o = 9) {M : Mem} {r : Int32} {M' : Mem} (hf : f_X9_rest o p1 p2 M = some (r, M')) : Ct l (E1 A tC tA tP kK kV) D K G1 ad A yX9_rest (ws_of yX9_rest cX9_rest 4 (some .int)) rm_X9_rest .int [.ref (ad o), .int p1, .int p2] M r M' := by
  have hst : Est A (E1 A tC tA tP kK kV) := est1
  refine Ct.ofW (by decide) (Nat.le_of_ble_eq_true rfl) ?_
  intro p e s m args below meth c Q H locs ls S hK hE hP hS hl hret
  have hx := S.1
  have hb := S.2.1
  have hown := S.2.2.2.1
  have ht := S.2.2.2.2
  have hl : lv_has ls 4 [(0, .ref (ad o)), (1, .int p1), (2, .int p2)] := hl
  unfold f_X9_rest at hf
  refine lv_iload_n hx hb dX9_rest_0 rfl (lv_at hl 1 rfl) ?_
  refine r_callS (As := [.int p1]) (rest := []) S hK hE hst hP hS (cw_X9_312 ht ⟨Nat.le_of_ble_eq_true rfl, Nat.le_of_ble_eq_true rfl⟩) rfl hl.1 rfl (Nat.le_of_ble_eq_true rfl) dX9_rest_1 z2 (fun _ _ h => c_X9_isSlot hG  h) hf (fun x1 M H locs hP hS bx1 hf => ?_)
  refine r_if_ne (tgt := 10) S dX9_rest_4 (by decide) hf (fun hf => ?_) (fun hf => ?_)
  · refine lv_aload_n hx hb dX9_rest_10 rfl (lv_at hl 0 rfl) ?_
    refine gf_X9_38 S hK hP h0 dX9_rest_11 hf (fun x2 hx2 hf => ?_)
    refine lv_iload_n hx hb dX9_rest_14 rfl (lv_at hl 1 rfl) ?_
    refine r_aald23 S hK hP hx2 (ra23 hx2.1) dX9_rest_15 hf (fun x3 hx3 hf => ?_)
    refine lv_astore_n (lv' := [(3, .ref (ad x3)), (0, .ref (ad o)), (1, .int p1), (2, .int p2)]) hx hb dX9_rest_16 rfl hl (by decide) rfl (fun ls hl => ?_)
    refine lv_aload_n hx hb dX9_rest_17 rfl (lv_at hl 0 rfl) ?_
    refine gf_X9_315 S hK hP hx3 dX9_rest_18 hf (fun x4 hf => ?_)
    refine r_if_ne (tgt := 28) S dX9_rest_21 (by decide) hf (fun hf => ?_) (fun hf => ?_)
    · refine lv_aload_n hx hb dX9_rest_28 rfl (lv_at hl 0 rfl) ?_
      refine gf_X9_315 S hK hP hx3 dX9_rest_29 hf (fun x5 hf => ?_)
      refine lv_iconst (v := 3) hx hb dX9_rest_32 (by decide) ?_
      refine r_icmp_eq (tgt := 39) S dX9_rest_33 (by decide) hf (fun hf => ?_) (fun hf => ?_)
      · refine lv_iload_n hx hb dX9_rest_39 rfl (lv_at hl 3 rfl) ?_
        refine r_if_ne (tgt := 46) S dX9_rest_40 (by decide) hf (fun hf => ?_) (fun hf => ?_)
        · refine lv_aload_n hx hb dX9_rest_46 rfl (lv_at hl 0 rfl) ?_
          refine gf_X9_329 S hK hP hx3 dX9_rest_47 hf (fun x6 hf => ?_)
          refine lv_iload_n hx hb dX9_rest_50 rfl (lv_at hl 3 rfl) ?_
          refine r_irem S dX9_rest_51 hf (fun hf => ?_)
          exact hret _ _ _ _ _ _ dX9_rest_52 hP hS rfl hf
        · refine lv_ldc (v := (-1000000002)) hx hb hown (ht _ k_743) dX9_rest_43 ?_
          exact hret _ _ _ _ _ _ dX9_rest_45 hP hS rfl hf
      · refine lv_ldc (v := (-1000000012)) hx hb hown (ht _ k_520) dX9_rest_36 ?_
        exact hret _ _ _ _ _ _ dX9_rest_38 hP hS rfl hf
    · refine lv_ldcw (v := (-1000000011)) hx hb hown (ht _ k_988) dX9_rest_24 ?_
      exact hret _ _ _ _ _ _ dX9_rest_27 hP hS rfl hf
  · refine lv_ldc (v := (-1000000001)) hx hb hown (ht _ k_405) dX9_rest_7 ?_
    exact hret _ _ _ _ _ _ dX9_rest_9 hP hS rfl hf
section
variable {p : Program} {l : Launch} {e : Env} {R : Room} {s : State} {m : MethodId} {args : Array Value} {below : List Frame} {meth : Method} {c : Code} {H : Heap} {locs : List Loc} {cells slots : Nat} {Q : State → Prop} {cc : ByteArray} {pc : Nat} {ls : Array Slot} {rest : List Value} {nL : Nat} {D : va_G} {K : Ks} {ad : Nat → Nat} {A : Nat → Prop} {M : Mem} {β : Type} {z : β}
theorem gf_X9_26 (S : CallFix p m c cc nL s args Tw RX9) (hK : va_K D classes (gty K) s) (hP : va_P D classes (gws K G1 ad M) H) {a : Nat} {kk : Nat → Option β} (ha : gcl G1 a = 9) (hdg : decode cc pc = .ok (.getfield 26, 3)) (hf : vv (grf G1 a 4) kk = some z) (w : ∀ b, gcl G1 b = 20 ∧ gsz G1 b = 60 → kk b = some z → W p l e R s m args below meth c H locs cells slots Q (F0 m (pc + 3) ls (.ref (ad b) :: rest))) : W p l e R s m args below meth c H locs cells slots Q (F0 m pc ls (.ref (ad a) :: rest)) := r_getr S hK hP (T := TX9) inX9 rfl (by decide) (by decide) ha (sf_X9_4 ha).1 k_377 hdg hf (fun b e => w b (by rw [e]; exact (sf_X9_4 ha).2))
end
section
variable {p : Program} {l : Launch} {e : Env} {R : Room} {s : State} {m : MethodId} {args : Array Value} {below : List Frame} {meth : Method} {c : Code} {H : Heap} {locs : List Loc} {cells slots : Nat} {Q : State → Prop} {cc : ByteArray} {pc : Nat} {ls : Array Slot} {rest : List Value} {nL : Nat} {D : va_G} {K : Ks} {ad : Nat → Nat} {A : Nat → Prop} {M : Mem} {β : Type} {z : β}
theorem gf_X9_336 (S : CallFix p m c cc nL s args Tw RX9) (hK : va_K D classes (gty K) s) (hP : va_P D classes (gws K G1 ad M) H) {a : Nat} {kk : Int32 → Option β} (ha : gcl G1 a = 9) (hdg : decode cc pc = .ok (.getfield 336, 3)) (hf : vv (M a 5) kk = some z) (w : ∀ x, kk x = some z → W p l e R s m args below meth c H locs cells slots Q (F0 m (pc + 3) ls (.int x :: rest))) : W p l e R s m args below meth c H locs cells slots Q (F0 m pc ls (.ref (ad a) :: rest)) := r_geti S hK hP (T := TX9) inX9 rfl (by decide) (by decide) ha (sf_X9_5 ha) k_378 hdg hf w
end
section
variable {p : Program} {l : Launch} {e : Env} {R : Room} {s : State} {m : MethodId} {args : Array Value} {below : List Frame} {meth : Method} {c : Code} {H : Heap} {locs : List Loc} {cells slots : Nat} {Q : State → Prop} {cc : ByteArray} {pc : Nat} {ls : Array Slot} {rest : List Value} {nL : Nat} {D : va_G} {K : Ks} {ad : Nat → Nat} {A : Nat → Prop} {M : Mem} {β : Type} {z : β}
theorem pf_X9_336 (S : CallFix p m c cc nL s args Tw RX9) (hK : va_K D classes (gty K) s) (hG : Gok G1 ad A) (hP : va_P D classes (gws K G1 ad M) H) (hS : va_S A s.heap H locs) {a : Nat} {v : Int32} {kk : Mem → Option β} (ha : gcl G1 a = 9) (hdg : decode cc pc = .ok (.putfield 336, 3)) (hf : mm (up M a 5 v) kk = some z) (w : ∀ M H locs, va_P D classes (gws K G1 ad M) H → va_S A s.heap H locs → kk M = some z → W p l e R s m args below meth c H locs cells slots Q (F0 m (pc + 3) ls rest)) : W p l e R s m args below meth c H locs cells slots Q (F0 m pc ls (.int v :: .ref (ad a) :: rest)) := r_putt S hK hG hP hS (k := 5) (T := TX9) inX9 rfl (by decide) tyX9 tyX9_ok nmX9 (by decide) rfl rfl rfl ha (sf_X9_5 ha) k_378 hdg hf w
end
def f_X9_tell (o : Nat) (p1 : Int32) (M : Mem) : Option (Int32 × Mem) :=
  vv (M o 5) fun x1 =>
  if x1 < 60 then
    vv (grf G1 o 4) fun x2 =>
    vv (M o 5) fun x3 =>
    st M x2 x3 60 p1 fun M =>
    vv (M o 5) fun x4 =>
    mm (up M o 5 (x4 + 1)) fun M =>
    vv (M o 5) fun x5 =>
    some (x5, M)
  else
    some ((-1000000003), M)
def rm_X9_tell : Room := { frames := 0, cells := 0, slots := 0, locals := 0 }
set_option maxHeartbeats 4000000 in
set_option maxRecDepth 100000 in
theorem c_X9_tell {l : Launch} {D : va_G} {K : Ks} {ad : Nat → Nat} {A : Nat → Prop} {tC tA tP : Nat} {kK kV : Nat → Nat} (hG : Gok G1 ad A) {o : Nat} {p1 : Int32} (h0 : gcl G1 o = 9) {M : Mem} {r : Int32} {M' : Mem} (hf : f_X9_tell o p1 M = some (r, M')) : Ct l (E1 A tC tA tP kK kV) D K G1 ad A yX9_tell (ws_of yX9_tell cX9_tell 2 (some .int)) rm_X9_tell .int [.ref (ad o), .int p1] M r M' := by
  have hst : Est A (E1 A tC tA tP kK kV) := est1
  refine Ct.ofW (by decide) (Nat.le_of_ble_eq_true rfl) ?_
  intro p e s m args below meth c Q H locs ls S hK hE hP hS hl hret
  have hx := S.1
  have hb := S.2.1
  have hown := S.2.2.2.1
  have ht := S.2.2.2.2
  have hl : lv_has ls 2 [(0, .ref (ad o)), (1, .int p1)] := hl
  unfold f_X9_tell at hf
  refine lv_aload_n hx hb dX9_tell_0 rfl (lv_at hl 0 rfl) ?_
  refine gf_X9_336 S hK hP h0 dX9_tell_1 hf (fun x1 hf => ?_)
  refine lv_bipush (v := 60) hx hb dX9_tell_4 (by decide) ?_
  refine r_icmp_lt (tgt := 12) S dX9_tell_6 (by decide) hf (fun hf => ?_) (fun hf => ?_)
  · refine lv_aload_n hx hb dX9_tell_12 rfl (lv_at hl 0 rfl) ?_
    refine gf_X9_26 S hK hP h0 dX9_tell_13 hf (fun x2 hx2 hf => ?_)
    refine lv_aload_n hx hb dX9_tell_16 rfl (lv_at hl 0 rfl) ?_
    refine gf_X9_336 S hK hP h0 dX9_tell_17 hf (fun x3 hf => ?_)
    refine lv_iload_n hx hb dX9_tell_20 rfl (lv_at hl 1 rfl) ?_
    refine r_iast S hK hG hP hS hx2 dX9_tell_21 hf (fun M H locs hP hS hf => ?_)
    refine lv_aload_n hx hb dX9_tell_22 rfl (lv_at hl 0 rfl) ?_
    refine lv_dup hx hb dX9_tell_23 rfl ?_
    refine gf_X9_336 S hK hP h0 dX9_tell_24 hf (fun x4 hf => ?_)
    refine lv_iconst (v := 1) hx hb dX9_tell_27 (by decide) ?_
    refine lv_iadd hx hb dX9_tell_28 ?_
    refine pf_X9_336 S hK hG hP hS h0 dX9_tell_29 hf (fun M H locs hP hS hf => ?_)
    refine lv_aload_n hx hb dX9_tell_32 rfl (lv_at hl 0 rfl) ?_
    refine gf_X9_336 S hK hP h0 dX9_tell_33 hf (fun x5 hf => ?_)
    exact hret _ _ _ _ _ _ dX9_tell_36 hP hS rfl hf
  · refine lv_ldc (v := (-1000000003)) hx hb hown (ht _ k_430) dX9_tell_9 ?_
    exact hret _ _ _ _ _ _ dX9_tell_11 hP hS rfl hf
section
variable {p : Program} {l : Launch} {e : Env} {R : Room} {s : State} {m : MethodId} {args : Array Value} {below : List Frame} {meth : Method} {c : Code} {H : Heap} {locs : List Loc} {cells slots : Nat} {Q : State → Prop} {cc : ByteArray} {pc : Nat} {ls : Array Slot} {rest : List Value} {nL : Nat} {D : va_G} {K : Ks} {ad : Nat → Nat} {A : Nat → Prop} {M : Mem} {β : Type} {z : β}
theorem gf_X9_16 (S : CallFix p m c cc nL s args Tw RX9) (hK : va_K D classes (gty K) s) (hP : va_P D classes (gws K G1 ad M) H) {a : Nat} {kk : Nat → Option β} (ha : gcl G1 a = 9) (hdg : decode cc pc = .ok (.getfield 16, 3)) (hf : vv (grf G1 a 1) kk = some z) (w : ∀ b, gcl G1 b = 6 → kk b = some z → W p l e R s m args below meth c H locs cells slots Q (F0 m (pc + 3) ls (.ref (ad b) :: rest))) : W p l e R s m args below meth c H locs cells slots Q (F0 m pc ls (.ref (ad a) :: rest)) := r_getr S hK hP (T := TX9) inX9 rfl (by decide) (by decide) ha (sf_X9_1 ha).1 k_374 hdg hf (fun b e => w b (by rw [e]; exact (sf_X9_1 ha).2))
end
section
variable {p : Program} {l : Launch} {e : Env} {R : Room} {s : State} {m : MethodId} {args : Array Value} {below : List Frame} {meth : Method} {c : Code} {H : Heap} {locs : List Loc} {cells slots : Nat} {Q : State → Prop} {cc : ByteArray} {pc : Nat} {ls : Array Slot} {rest : List Value} {nL : Nat} {D : va_G} {K : Ks} {ad : Nat → Nat} {A : Nat → Prop} {M : Mem} {β : Type} {z : β}
theorem gf_X9_339 (S : CallFix p m c cc nL s args Tw RX9) (hK : va_K D classes (gty K) s) (hP : va_P D classes (gws K G1 ad M) H) {a : Nat} {kk : Int32 → Option β} (ha : gcl G1 a = 9) (hdg : decode cc pc = .ok (.getfield 339, 3)) (hf : vv (M a 2) kk = some z) (w : ∀ x, kk x = some z → W p l e R s m args below meth c H locs cells slots Q (F0 m (pc + 3) ls (.int x :: rest))) : W p l e R s m args below meth c H locs cells slots Q (F0 m pc ls (.ref (ad a) :: rest)) := r_geti S hK hP (T := TX9) inX9 rfl (by decide) (by decide) ha (sf_X9_2 ha) k_375 hdg hf w
end
def f_X9_check (o : Nat) (p1 : Int32) (p2 : Int32) (M : Mem) : Option (Int32 × Mem) :=
  vv (M o 5) fun x1 =>
  mm (up M o 5 0) fun M =>
  bd (f_X9_areLandTables p1 M) fun x2 M =>
  if x2 = 0 then
    some ((-1000000001), M)
  else
    bd (f_X9_arePairs p2 M) fun x3 M =>
    if x3 = 0 then
      some ((-1000000001), M)
    else
      vv (M o 2) fun x4 =>
      if x4 = 0 then
        some ((-1000000002), M)
      else
        vv (grf G1 o 1) fun x5 =>
        vv (M x5 8) fun x6 =>
        vv (grf G1 o 1) fun x7 =>
        bd (f_X6_drawLand x7 p1 p2 M) fun _ M =>
        vv (grf G1 o 1) fun x9 =>
        mm (up M x9 8 x6) fun M =>
        it1 (fun rc11 (v10 : Int32) M =>
          jn (fun (M : Mem) =>
            if v10 = p1 then
              if v10 = x1 then
                some (0, M)
              else
                some ((1 + v10), M)
            else
              some ((1 + v10), M)
          ) fun k12 =>
          if v10 < p1 then
            if v10 < x1 then
              vv (grf G1 o 4) fun x13 =>
              ld M x13 v10 60 fun x14 =>
              vv (grf G1 o 1) fun x15 =>
              vv (grf G1 x15 9) fun x16 =>
              ld M x16 v10 12 fun x17 =>
              if x14 = x17 then
                rc11 (v10 + 1) M
              else
                k12 M
            else
              k12 M
          else
            k12 M
        ) fuel 0 M
def rm_X9_check : Room := { frames := 4, cells := 0, slots := 0, locals := 97 }
set_option maxHeartbeats 4000000 in
set_option maxRecDepth 100000 in
theorem c_X9_check {l : Launch} {D : va_G} {K : Ks} {ad : Nat → Nat} {A : Nat → Prop} {tC tA tP : Nat} {kK kV : Nat → Nat} (hG : Gok G1 ad A) {o : Nat} {p1 : Int32} {p2 : Int32} (h0 : gcl G1 o = 9) {M : Mem} {r : Int32} {M' : Mem} (hf : f_X9_check o p1 p2 M = some (r, M')) : Ct l (E1 A tC tA tP kK kV) D K G1 ad A yX9_check (ws_of yX9_check cX9_check 6 (some .int)) rm_X9_check .int [.ref (ad o), .int p1, .int p2] M r M' := by
  have hst : Est A (E1 A tC tA tP kK kV) := est1
  refine Ct.ofW (by decide) (Nat.le_of_ble_eq_true rfl) ?_
  intro p e s m args below meth c Q H locs ls S hK hE hP hS hl hret
  have hx := S.1
  have hb := S.2.1
  have hown := S.2.2.2.1
  have ht := S.2.2.2.2
  have hl : lv_has ls 6 [(0, .ref (ad o)), (1, .int p1), (2, .int p2)] := hl
  unfold f_X9_check at hf
  refine lv_aload_n hx hb dX9_check_0 rfl (lv_at hl 0 rfl) ?_
  refine gf_X9_336 S hK hP h0 dX9_check_1 hf (fun x1 hf => ?_)
  refine lv_istore_n (lv' := [(3, .int x1), (0, .ref (ad o)), (1, .int p1), (2, .int p2)]) hx hb dX9_check_4 rfl hl (by decide) rfl (fun ls hl => ?_)
  refine lv_aload_n hx hb dX9_check_5 rfl (lv_at hl 1 rfl) ?_
  refine lv_iconst (v := 0) hx hb dX9_check_6 (by decide) ?_
  refine pf_X9_336 S hK hG hP hS h0 dX9_check_7 hf (fun M H locs hP hS hf => ?_)
  refine lv_iload_n hx hb dX9_check_10 rfl (lv_at hl 2 rfl) ?_
  refine r_callS (As := [.int p1]) (rest := []) S hK hE hst hP hS (cw_X9_274 ht ⟨Nat.le_of_ble_eq_true rfl, Nat.le_of_ble_eq_true rfl⟩) rfl hl.1 rfl (Nat.le_of_ble_eq_true rfl) dX9_check_11 z2 (fun _ _ h => c_X9_areLandTables hG  h) hf (fun x2 M H locs hP hS bx2 hf => ?_)
  refine r_if_eq (tgt := 24) S dX9_check_14 (by decide) hf (fun hf => ?_) (fun hf => ?_)
  · refine lv_ldc (v := (-1000000001)) hx hb hown (ht _ k_405) dX9_check_24 ?_
    exact hret _ _ _ _ _ _ dX9_check_26 hP hS rfl hf
  · refine lv_iload_n hx hb dX9_check_17 rfl (lv_at hl 3 rfl) ?_
    refine r_callS (As := [.int p2]) (rest := []) S hK hE hst hP hS (cw_X9_66 ht ⟨Nat.le_of_ble_eq_true rfl, Nat.le_of_ble_eq_true rfl⟩) rfl hl.1 rfl (Nat.le_of_ble_eq_true rfl) dX9_check_18 z2 (fun _ _ h => c_X9_arePairs hG  h) hf (fun x3 M H locs hP hS bx3 hf => ?_)
    refine r_if_ne (tgt := 27) S dX9_check_21 (by decide) hf (fun hf => ?_) (fun hf => ?_)
    · refine lv_aload_n hx hb dX9_check_27 rfl (lv_at hl 1 rfl) ?_
      refine gf_X9_339 S hK hP h0 dX9_check_28 hf (fun x4 hf => ?_)
      refine r_if_ne (tgt := 37) S dX9_check_31 (by decide) hf (fun hf => ?_) (fun hf => ?_)
      · refine lv_aload_n hx hb dX9_check_37 rfl (lv_at hl 1 rfl) ?_
        refine gf_X9_16 S hK hP h0 dX9_check_38 hf (fun x5 hx5 hf => ?_)
        refine gf_X9_271 S hK hP hx5 dX9_check_41 hf (fun x6 hf => ?_)
        refine lv_istore (lv' := [(4, .int x6), (3, .int x1), (0, .ref (ad o)), (1, .int p1), (2, .int p2)]) hx hb dX9_check_44 hl (by decide) rfl (fun ls hl => ?_)
        refine lv_aload_n hx hb dX9_check_46 rfl (lv_at hl 2 rfl) ?_
        refine gf_X9_16 S hK hP h0 dX9_check_47 hf (fun x7 hx7 hf => ?_)
        refine lv_iload_n hx hb dX9_check_50 rfl (lv_at hl 3 rfl) ?_
        refine lv_iload_n hx hb dX9_check_51 rfl (lv_at hl 4 rfl) ?_
        refine r_callVv (As := [.int p1, .int p2]) (rest := []) S hK hE hst hP hS hx7 (by decide) rfl (cw_X9_277 ht ⟨Nat.le_of_ble_eq_true rfl, Nat.le_of_ble_eq_true rfl⟩) rfl hl.1 rfl (Nat.le_of_ble_eq_true rfl) dX9_check_52 z2 (fun _ _ h => c_X6_drawLand hG  hx7 h) hf (fun x8 M H locs hP hS hf => ?_)
        refine lv_aload_n hx hb dX9_check_55 rfl (lv_at hl 2 rfl) ?_
        refine gf_X9_16 S hK hP h0 dX9_check_56 hf (fun x9 hx9 hf => ?_)
        refine lv_iload hx hb dX9_check_59 (lv_at hl 0 rfl) ?_
        refine pf_X9_271 S hK hG hP hS hx9 dX9_check_61 hf (fun M H locs hP hS hf => ?_)
        refine lv_iconst (v := 0) hx hb dX9_check_64 (by decide) ?_
        refine lv_istore (lv' := [(5, .int 0), (4, .int x6), (3, .int x1), (0, .ref (ad o)), (1, .int p1), (2, .int p2)]) hx hb dX9_check_65 hl (by decide) rfl (fun ls hl => ?_)
        obtain ⟨F11, hF11, hf⟩ := it1_g hf
        have L11 : ∀ (n : Nat) (v10 : Int32) (M : Mem) (H : Heap) (locs : List Loc) (ls : Array Slot), lv_has ls 6 [(0, .ref (ad o)), (1, .int p1), (3, .int x1), (5, .int v10)] → va_P D classes (gws K G1 ad M) H → va_S A s.heap H locs → it1 F11 n v10 M = some (r, M') → W p l e rm_X9_check s m args below meth c H locs 0 0 Q (F0 m 67 ls []) := by
          intro n
          induction n with
          | zero => intro v10 M H locs ls hl hP hS hf; exact nomatch hf
          | succ n ih11 =>
            intro v10 M H locs ls hl hP hS hf
            obtain ⟨rc11, hrc11, hf⟩ := it1_w hf
            rw [← hrc11] at ih11
            rw [hF11] at hf
            refine lv_iload hx hb dX9_check_67 (lv_at hl 3 rfl) ?_
            refine lv_iload_n hx hb dX9_check_69 rfl (lv_at hl 1 rfl) ?_
            obtain ⟨k12, hk12, hf⟩ := jn_w hf
            have J12 : ∀ (M : Mem) (H : Heap) (locs : List Loc) (ls : Array Slot), lv_has ls 6 [(1, .int p1), (3, .int x1), (5, .int v10)] → va_P D classes (gws K G1 ad M) H → va_S A s.heap H locs → k12 M = some (r, M') → W p l e rm_X9_check s m args below meth c H locs 0 0 Q (F0 m 105 ls []) := by
              intro M H locs ls hl hP hS hf
              rw [hk12] at hf
              refine lv_iload hx hb dX9_check_105 (lv_at hl 2 rfl) ?_
              refine lv_iload_n hx hb dX9_check_107 rfl (lv_at hl 0 rfl) ?_
              refine r_icmp_ne (tgt := 121) S dX9_check_108 (by decide) hf (fun hf => ?_) (fun hf => ?_)
              · refine lv_iconst (v := 1) hx hb dX9_check_121 (by decide) ?_
                refine lv_iload hx hb dX9_check_122 (lv_at hl 2 rfl) ?_
                refine lv_iadd hx hb dX9_check_124 ?_
                exact hret _ _ _ _ _ _ dX9_check_125 hP hS rfl hf
              · refine lv_iload hx hb dX9_check_111 (lv_at hl 2 rfl) ?_
                refine lv_iload_n hx hb dX9_check_113 rfl (lv_at hl 1 rfl) ?_
                refine r_icmp_ne (tgt := 121) S dX9_check_114 (by decide) hf (fun hf => ?_) (fun hf => ?_)
                · refine lv_iconst (v := 1) hx hb dX9_check_121 (by decide) ?_
                  refine lv_iload hx hb dX9_check_122 (lv_at hl 2 rfl) ?_
                  refine lv_iadd hx hb dX9_check_124 ?_
                  exact hret _ _ _ _ _ _ dX9_check_125 hP hS rfl hf
                · refine lv_iconst (v := 0) hx hb dX9_check_117 (by decide) ?_
                  refine lv_goto (tgt := 125) hx hb dX9_check_118 (by decide) ?_
                  exact hret _ _ _ _ _ _ dX9_check_125 hP hS rfl hf
            refine r_icmp_ge (tgt := 105) S dX9_check_70 (by decide) hf (fun hf => ?_) (fun hf => ?_)
            · exact J12 M H locs ls (lv_sub hl [1, 2, 3] rfl) hP hS hf
            · refine lv_iload hx hb dX9_check_73 (lv_at hl 3 rfl) ?_
              refine lv_iload_n hx hb dX9_check_75 rfl (lv_at hl 2 rfl) ?_
              refine r_icmp_ge (tgt := 105) S dX9_check_76 (by decide) hf (fun hf => ?_) (fun hf => ?_)
              · exact J12 M H locs ls (lv_sub hl [1, 2, 3] rfl) hP hS hf
              · refine lv_aload_n hx hb dX9_check_79 rfl (lv_at hl 0 rfl) ?_
                refine gf_X9_26 S hK hP h0 dX9_check_80 hf (fun x13 hx13 hf => ?_)
                refine lv_iload hx hb dX9_check_83 (lv_at hl 3 rfl) ?_
                refine r_iald S hK hP hx13 dX9_check_85 hf (fun x14 hf => ?_)
                refine lv_aload_n hx hb dX9_check_86 rfl (lv_at hl 0 rfl) ?_
                refine gf_X9_16 S hK hP h0 dX9_check_87 hf (fun x15 hx15 hf => ?_)
                refine gf_X9_176 S hK hP hx15 dX9_check_90 hf (fun x16 hx16 hf => ?_)
                refine lv_iload hx hb dX9_check_93 (lv_at hl 3 rfl) ?_
                refine r_iald S hK hP hx16 dX9_check_95 hf (fun x17 hf => ?_)
                refine r_icmp_ne (tgt := 105) S dX9_check_96 (by decide) hf (fun hf => ?_) (fun hf => ?_)
                · exact J12 M H locs ls (lv_sub hl [1, 2, 3] rfl) hP hS hf
                · refine lv_iinc (v := (v10 + 1)) (lv' := [(5, .int (v10 + 1)), (0, .ref (ad o)), (1, .int p1), (3, .int x1)]) hx hb dX9_check_99 hl (k := 3) rfl rfl (by decide) rfl (fun ls hl => ?_)
                  refine lv_goto (tgt := 67) hx hb dX9_check_102 (by decide) ?_
                  exact ih11 (v10 + 1) M H locs ls (lv_sub hl [1, 2, 3, 0] rfl) hP hS hf
        exact L11 _ 0 M H locs ls (lv_sub hl [3, 4, 2, 0] rfl) hP hS hf
      · refine lv_ldc (v := (-1000000002)) hx hb hown (ht _ k_743) dX9_check_34 ?_
        exact hret _ _ _ _ _ _ dX9_check_36 hP hS rfl hf
    · refine lv_ldc (v := (-1000000001)) hx hb hown (ht _ k_405) dX9_check_24 ?_
      exact hret _ _ _ _ _ _ dX9_check_26 hP hS rfl hf
theorem cw_X9_343 {R : Room} {s : State} {args : Array Value} (ht : ∀ w ∈ Tw, w.before args s = true) (hR : rm_X6_become.frames + 1 ≤ R.frames ∧ 8 + (2 + 11) + rm_X6_become.locals ≤ R.locals) : CallW R s args RX9 RX6 343 yX6_become cX6_become 2 none (ws_of yX6_become cX6_become 2 none) rm_X6_become 0 0 1 := cw_V 1 ht k_1054 k_1055 k_1056 k_64 k_1057 (by decide +kernel) rfl rfl hR
section
variable {p : Program} {l : Launch} {e : Env} {R : Room} {s : State} {m : MethodId} {args : Array Value} {below : List Frame} {meth : Method} {c : Code} {H : Heap} {locs : List Loc} {cells slots : Nat} {Q : State → Prop} {cc : ByteArray} {pc : Nat} {ls : Array Slot} {rest : List Value} {nL : Nat} {D : va_G} {K : Ks} {ad : Nat → Nat} {A : Nat → Prop} {M : Mem} {β : Type} {z : β}
theorem pf_X9_339 (S : CallFix p m c cc nL s args Tw RX9) (hK : va_K D classes (gty K) s) (hG : Gok G1 ad A) (hP : va_P D classes (gws K G1 ad M) H) (hS : va_S A s.heap H locs) {a : Nat} {v : Int32} {kk : Mem → Option β} (hn : narrow .boolean (.int v) = .int v) (hft : fits .boolean (.int v) = true) (ha : gcl G1 a = 9) (hdg : decode cc pc = .ok (.putfield 339, 3)) (hf : mm (up M a 2 v) kk = some z) (w : ∀ M H locs, va_P D classes (gws K G1 ad M) H → va_S A s.heap H locs → kk M = some z → W p l e R s m args below meth c H locs cells slots Q (F0 m (pc + 3) ls rest)) : W p l e R s m args below meth c H locs cells slots Q (F0 m pc ls (.int v :: .ref (ad a) :: rest)) := r_putt S hK hG hP hS (k := 2) (T := TX9) inX9 rfl (by decide) tyX9 tyX9_ok nmX9 (by decide) rfl hn hft ha (sf_X9_2 ha) k_375 hdg hf w
end
def f_X9_keep (o : Nat) (M : Mem) : Option (Int32 × Mem) :=
  vv (grf G1 o 1) fun x1 =>
  vv (grf G1 o 0) fun x2 =>
  bd (f_X6_become x1 x2 M) fun _ M =>
  mm (up M o 2 1) fun M =>
  vv (grf G1 o 0) fun x4 =>
  vv (grf G1 x4 0) fun x5 =>
  vv (M x5 2) fun x6 =>
  some (x6, M)
def rm_X9_keep : Room := { frames := 3, cells := 0, slots := 0, locals := 102 }
set_option maxHeartbeats 4000000 in
set_option maxRecDepth 100000 in
theorem c_X9_keep {l : Launch} {D : va_G} {K : Ks} {ad : Nat → Nat} {A : Nat → Prop} {tC tA tP : Nat} {kK kV : Nat → Nat} (hG : Gok G1 ad A) {o : Nat} (h0 : gcl G1 o = 9) {M : Mem} {r : Int32} {M' : Mem} (hf : f_X9_keep o M = some (r, M')) : Ct l (E1 A tC tA tP kK kV) D K G1 ad A yX9_keep (ws_of yX9_keep cX9_keep 1 (some .int)) rm_X9_keep .int [.ref (ad o)] M r M' := by
  have hst : Est A (E1 A tC tA tP kK kV) := est1
  refine Ct.ofW (by decide) (Nat.le_of_ble_eq_true rfl) ?_
  intro p e s m args below meth c Q H locs ls S hK hE hP hS hl hret
  have hx := S.1
  have hb := S.2.1
  have hown := S.2.2.2.1
  have ht := S.2.2.2.2
  have hl : lv_has ls 1 [(0, .ref (ad o))] := hl
  unfold f_X9_keep at hf
  refine lv_aload_n hx hb dX9_keep_0 rfl (lv_at hl 0 rfl) ?_
  refine gf_X9_16 S hK hP h0 dX9_keep_1 hf (fun x1 hx1 hf => ?_)
  refine lv_aload_n hx hb dX9_keep_4 rfl (lv_at hl 0 rfl) ?_
  refine gf_X9_10 S hK hP h0 dX9_keep_5 hf (fun x2 hx2 hf => ?_)
  refine r_callVv (As := [.ref (ad x2)]) (rest := []) S hK hE hst hP hS hx1 (by decide) rfl (cw_X9_343 ht ⟨Nat.le_of_ble_eq_true rfl, Nat.le_of_ble_eq_true rfl⟩) rfl hl.1 rfl (Nat.le_of_ble_eq_true rfl) dX9_keep_8 z2 (fun _ _ h => c_X6_become hG  hx1 hx2 h) hf (fun x3 M H locs hP hS hf => ?_)
  refine lv_aload_n hx hb dX9_keep_11 rfl (lv_at hl 0 rfl) ?_
  refine lv_iconst (v := 1) hx hb dX9_keep_12 (by decide) ?_
  refine pf_X9_339 S hK hG hP hS rfl rfl h0 dX9_keep_13 hf (fun M H locs hP hS hf => ?_)
  refine lv_aload_n hx hb dX9_keep_16 rfl (lv_at hl 0 rfl) ?_
  refine gf_X9_10 S hK hP h0 dX9_keep_17 hf (fun x4 hx4 hf => ?_)
  refine gf_X9_49 S hK hP hx4 dX9_keep_20 hf (fun x5 hx5 hf => ?_)
  refine gf_X9_75 S hK hP hx5 dX9_keep_23 hf (fun x6 hf => ?_)
  exact hret _ _ _ _ _ _ dX9_keep_26 hP hS rfl hf
def f_X9_back (o : Nat) (M : Mem) : Option (Int32 × Mem) :=
  vv (M o 2) fun x1 =>
  if x1 = 0 then
    some ((-1000000002), M)
  else
    vv (grf G1 o 0) fun x2 =>
    vv (grf G1 o 1) fun x3 =>
    bd (f_X6_become x2 x3 M) fun _ M =>
    vv (grf G1 o 0) fun x5 =>
    vv (grf G1 x5 0) fun x6 =>
    vv (M x6 2) fun x7 =>
    some (x7, M)
def rm_X9_back : Room := { frames := 3, cells := 0, slots := 0, locals := 102 }
set_option maxHeartbeats 4000000 in
set_option maxRecDepth 100000 in
theorem c_X9_back {l : Launch} {D : va_G} {K : Ks} {ad : Nat → Nat} {A : Nat → Prop} {tC tA tP : Nat} {kK kV : Nat → Nat} (hG : Gok G1 ad A) {o : Nat} (h0 : gcl G1 o = 9) {M : Mem} {r : Int32} {M' : Mem} (hf : f_X9_back o M = some (r, M')) : Ct l (E1 A tC tA tP kK kV) D K G1 ad A yX9_back (ws_of yX9_back cX9_back 1 (some .int)) rm_X9_back .int [.ref (ad o)] M r M' := by
  have hst : Est A (E1 A tC tA tP kK kV) := est1
  refine Ct.ofW (by decide) (Nat.le_of_ble_eq_true rfl) ?_
  intro p e s m args below meth c Q H locs ls S hK hE hP hS hl hret
  have hx := S.1
  have hb := S.2.1
  have hown := S.2.2.2.1
  have ht := S.2.2.2.2
  have hl : lv_has ls 1 [(0, .ref (ad o))] := hl
  unfold f_X9_back at hf
  refine lv_aload_n hx hb dX9_back_0 rfl (lv_at hl 0 rfl) ?_
  refine gf_X9_339 S hK hP h0 dX9_back_1 hf (fun x1 hf => ?_)
  refine r_if_ne (tgt := 10) S dX9_back_4 (by decide) hf (fun hf => ?_) (fun hf => ?_)
  · refine lv_aload_n hx hb dX9_back_10 rfl (lv_at hl 0 rfl) ?_
    refine gf_X9_10 S hK hP h0 dX9_back_11 hf (fun x2 hx2 hf => ?_)
    refine lv_aload_n hx hb dX9_back_14 rfl (lv_at hl 0 rfl) ?_
    refine gf_X9_16 S hK hP h0 dX9_back_15 hf (fun x3 hx3 hf => ?_)
    refine r_callVv (As := [.ref (ad x3)]) (rest := []) S hK hE hst hP hS hx2 (by decide) rfl (cw_X9_343 ht ⟨Nat.le_of_ble_eq_true rfl, Nat.le_of_ble_eq_true rfl⟩) rfl hl.1 rfl (Nat.le_of_ble_eq_true rfl) dX9_back_18 z2 (fun _ _ h => c_X6_become hG  hx2 hx3 h) hf (fun x4 M H locs hP hS hf => ?_)
    refine lv_aload_n hx hb dX9_back_21 rfl (lv_at hl 0 rfl) ?_
    refine gf_X9_10 S hK hP h0 dX9_back_22 hf (fun x5 hx5 hf => ?_)
    refine gf_X9_49 S hK hP hx5 dX9_back_25 hf (fun x6 hx6 hf => ?_)
    refine gf_X9_75 S hK hP hx6 dX9_back_28 hf (fun x7 hf => ?_)
    exact hret _ _ _ _ _ _ dX9_back_31 hP hS rfl hf
  · refine lv_ldc (v := (-1000000002)) hx hb hown (ht _ k_743) dX9_back_7 ?_
    exact hret _ _ _ _ _ _ dX9_back_9 hP hS rfl hf
theorem cw_X9_346 {R : Room} {s : State} {args : Array Value} (ht : ∀ w ∈ Tw, w.before args s = true) (hR : rm_X6_fitting.frames + 1 ≤ R.frames ∧ 8 + (3 + 11) + rm_X6_fitting.locals ≤ R.locals) : CallW R s args RX9 RX6 346 yX6_fitting cX6_fitting 3 (some .int) (ws_of yX6_fitting cX6_fitting 3 (some .int)) rm_X6_fitting 0 0 0 := cw_V 0 ht k_1091 k_1092 k_1093 k_64 k_1094 (by decide +kernel) rfl rfl hR
theorem cw_X9_349 {R : Room} {s : State} {args : Array Value} (ht : ∀ w ∈ Tw, w.before args s = true) (hR : rm_X0_unkind.frames + 1 ≤ R.frames ∧ 8 + (3 + 11) + rm_X0_unkind.locals ≤ R.locals) : CallW R s args RX9 RX0 349 yX0_unkind cX0_unkind 3 (some .int) (ws_of yX0_unkind cX0_unkind 3 (some .int)) rm_X0_unkind 0 0 0 := cw_V 0 ht k_1095 k_1096 k_1097 k_65 k_1098 (by decide +kernel) rfl rfl hR
section
variable {p : Program} {l : Launch} {e : Env} {R : Room} {s : State} {m : MethodId} {args : Array Value} {below : List Frame} {meth : Method} {c : Code} {H : Heap} {locs : List Loc} {cells slots : Nat} {Q : State → Prop} {cc : ByteArray} {pc : Nat} {ls : Array Slot} {rest : List Value} {nL : Nat} {D : va_G} {K : Ks} {ad : Nat → Nat} {A : Nat → Prop} {M : Mem} {β : Type} {z : β}
theorem gf_X9_352 (S : CallFix p m c cc nL s args Tw RX9) (hK : va_K D classes (gty K) s) (hP : va_P D classes (gws K G1 ad M) H) {a : Nat} {kk : Int32 → Option β} (ha : gcl G1 a = 2) (hdg : decode cc pc = .ok (.getfield 352, 3)) (hf : vv (M a 1) kk = some z) (w : ∀ x, kk x = some z → W p l e R s m args below meth c H locs cells slots Q (F0 m (pc + 3) ls (.int x :: rest))) : W p l e R s m args below meth c H locs cells slots Q (F0 m pc ls (.ref (ad a) :: rest)) := r_geti S hK hP (T := TX2) inX2 rfl (by decide) (by decide) ha (sf_X2_1 ha) k_194 hdg hf w
end
def f_X9_count (o : Nat) (p1 : Int32) (M : Mem) : Option (Int32 × Mem) :=
  if p1 = 0 then
    vv (grf G1 o 0) fun x1 =>
    vv (grf G1 x1 0) fun x2 =>
    vv (M x2 0) fun x3 =>
    some (x3, M)
  else
  if p1 = 1 then
    vv (grf G1 o 0) fun x6 =>
    vv (grf G1 x6 0) fun x7 =>
    vv (M x7 2) fun x8 =>
    some (x8, M)
  else
  if p1 = 2 then
    vv (grf G1 o 0) fun x11 =>
    bd (f_X6_fitting x11 M) fun x12 M =>
    some (x12, M)
  else
  if p1 = 3 then
    vv (grf G1 o 0) fun x15 =>
    vv (grf G1 x15 0) fun x16 =>
    bd (f_X0_unkind x16 M) fun x17 M =>
    some (x17, M)
  else
  if p1 = 4 then
    vv (grf G1 o 0) fun x20 =>
    vv (grf G1 x20 1) fun x21 =>
    vv (M x21 0) fun x22 =>
    some (x22, M)
  else
  if p1 = 5 then
    vv (grf G1 o 0) fun x25 =>
    vv (M x25 6) fun x26 =>
    some (x26, M)
  else
  if p1 = 6 then
    vv (grf G1 o 0) fun x29 =>
    vv (grf G1 x29 3) fun x30 =>
    vv (M x30 1) fun x31 =>
    some (x31, M)
  else
  if p1 = 7 then
    vv (grf G1 o 0) fun x34 =>
    vv (grf G1 x34 4) fun x35 =>
    vv (M x35 0) fun x36 =>
    some (x36, M)
  else
  if p1 = 8 then
    vv (grf G1 o 0) fun x39 =>
    vv (grf G1 x39 4) fun x40 =>
    vv (M x40 4) fun x41 =>
    some (x41, M)
  else
  if p1 = 9 then
    vv (M o 5) fun x44 =>
    some (x44, M)
  else
  if p1 = 10 then
    vv (grf G1 o 3) fun x47 =>
    vv (M x47 1) fun x48 =>
    some (x48, M)
  else
  if p1 = 11 then
    vv (grf G1 o 0) fun x51 =>
    vv (M x51 8) fun x52 =>
    some (x52, M)
  else
  some ((-1000000001), M)
def rm_X9_count : Room := { frames := 6, cells := 0, slots := 0, locals := 144 }
set_option maxHeartbeats 4000000 in
set_option maxRecDepth 100000 in
theorem c_X9_count {l : Launch} {D : va_G} {K : Ks} {ad : Nat → Nat} {A : Nat → Prop} {tC tA tP : Nat} {kK kV : Nat → Nat} (hG : Gok G1 ad A) {o : Nat} {p1 : Int32} (h0 : gcl G1 o = 9) {M : Mem} {r : Int32} {M' : Mem} (hf : f_X9_count o p1 M = some (r, M')) : Ct l (E1 A tC tA tP kK kV) D K G1 ad A yX9_count (ws_of yX9_count cX9_count 2 (some .int)) rm_X9_count .int [.ref (ad o), .int p1] M r M' := by
  have hst : Est A (E1 A tC tA tP kK kV) := est1
  refine Ct.ofW (by decide) (Nat.le_of_ble_eq_true rfl) ?_
  intro p e s m args below meth c Q H locs ls S hK hE hP hS hl hret
  have hx := S.1
  have hb := S.2.1
  have hown := S.2.2.2.1
  have ht := S.2.2.2.2
  have hl : lv_has ls 2 [(0, .ref (ad o)), (1, .int p1)] := hl
  unfold f_X9_count at hf
  refine lv_iload_n hx hb dX9_count_0 rfl (lv_at hl 1 rfl) ?_
  refine r_case hf (fun e4 hf => ?_) (fun n5 hf => ?_)
  · refine lv_tableIn (x := p1) (tgt := 64) hx hb dX9_count_1 (by rw [e4]; decide) (by rw [e4]; decide) (by rw [e4]; rfl) (by decide) ?_
    refine lv_aload_n hx hb dX9_count_64 rfl (lv_at hl 0 rfl) ?_
    refine gf_X9_10 S hK hP h0 dX9_count_65 hf (fun x1 hx1 hf => ?_)
    refine gf_X9_49 S hK hP hx1 dX9_count_68 hf (fun x2 hx2 hf => ?_)
    refine gf_X9_237 S hK hP hx2 dX9_count_71 hf (fun x3 hf => ?_)
    exact hret _ _ _ _ _ _ dX9_count_74 hP hS rfl hf
  refine r_case hf (fun e9 hf => ?_) (fun n10 hf => ?_)
  · refine lv_tableIn (x := p1) (tgt := 75) hx hb dX9_count_1 (by rw [e9]; decide) (by rw [e9]; decide) (by rw [e9]; rfl) (by decide) ?_
    refine lv_aload_n hx hb dX9_count_75 rfl (lv_at hl 0 rfl) ?_
    refine gf_X9_10 S hK hP h0 dX9_count_76 hf (fun x6 hx6 hf => ?_)
    refine gf_X9_49 S hK hP hx6 dX9_count_79 hf (fun x7 hx7 hf => ?_)
    refine gf_X9_75 S hK hP hx7 dX9_count_82 hf (fun x8 hf => ?_)
    exact hret _ _ _ _ _ _ dX9_count_85 hP hS rfl hf
  refine r_case hf (fun e13 hf => ?_) (fun n14 hf => ?_)
  · refine lv_tableIn (x := p1) (tgt := 86) hx hb dX9_count_1 (by rw [e13]; decide) (by rw [e13]; decide) (by rw [e13]; rfl) (by decide) ?_
    refine lv_aload_n hx hb dX9_count_86 rfl (lv_at hl 0 rfl) ?_
    refine gf_X9_10 S hK hP h0 dX9_count_87 hf (fun x11 hx11 hf => ?_)
    refine r_callV (As := []) (rest := []) S hK hE hst hP hS hx11 (by decide) rfl (cw_X9_346 ht ⟨Nat.le_of_ble_eq_true rfl, Nat.le_of_ble_eq_true rfl⟩) rfl hl.1 rfl (Nat.le_of_ble_eq_true rfl) dX9_count_90 z2 (fun _ _ h => c_X6_fitting hG  hx11 h) hf (fun x12 M H locs hP hS bx12 hf => ?_)
    exact hret _ _ _ _ _ _ dX9_count_93 hP hS rfl hf
  refine r_case hf (fun e18 hf => ?_) (fun n19 hf => ?_)
  · refine lv_tableIn (x := p1) (tgt := 94) hx hb dX9_count_1 (by rw [e18]; decide) (by rw [e18]; decide) (by rw [e18]; rfl) (by decide) ?_
    refine lv_aload_n hx hb dX9_count_94 rfl (lv_at hl 0 rfl) ?_
    refine gf_X9_10 S hK hP h0 dX9_count_95 hf (fun x15 hx15 hf => ?_)
    refine gf_X9_49 S hK hP hx15 dX9_count_98 hf (fun x16 hx16 hf => ?_)
    refine r_callV (As := []) (rest := []) S hK hE hst hP hS hx16 (by decide) rfl (cw_X9_349 ht ⟨Nat.le_of_ble_eq_true rfl, Nat.le_of_ble_eq_true rfl⟩) rfl hl.1 rfl (Nat.le_of_ble_eq_true rfl) dX9_count_101 z2 (fun _ _ h => c_X0_unkind hG  hx16 h) hf (fun x17 M H locs hP hS bx17 hf => ?_)
    exact hret _ _ _ _ _ _ dX9_count_104 hP hS rfl hf
  refine r_case hf (fun e23 hf => ?_) (fun n24 hf => ?_)
  · refine lv_tableIn (x := p1) (tgt := 105) hx hb dX9_count_1 (by rw [e23]; decide) (by rw [e23]; decide) (by rw [e23]; rfl) (by decide) ?_
    refine lv_aload_n hx hb dX9_count_105 rfl (lv_at hl 0 rfl) ?_
    refine gf_X9_10 S hK hP h0 dX9_count_106 hf (fun x20 hx20 hf => ?_)
    refine gf_X9_143 S hK hP hx20 dX9_count_109 hf (fun x21 hx21 hf => ?_)
    refine gf_X9_152 S hK hP hx21 dX9_count_112 hf (fun x22 hf => ?_)
    exact hret _ _ _ _ _ _ dX9_count_115 hP hS rfl hf
  refine r_case hf (fun e27 hf => ?_) (fun n28 hf => ?_)
  · refine lv_tableIn (x := p1) (tgt := 116) hx hb dX9_count_1 (by rw [e27]; decide) (by rw [e27]; decide) (by rw [e27]; rfl) (by decide) ?_
    refine lv_aload_n hx hb dX9_count_116 rfl (lv_at hl 0 rfl) ?_
    refine gf_X9_10 S hK hP h0 dX9_count_117 hf (fun x25 hx25 hf => ?_)
    refine gf_X9_200 S hK hP hx25 dX9_count_120 hf (fun x26 hf => ?_)
    exact hret _ _ _ _ _ _ dX9_count_123 hP hS rfl hf
  refine r_case hf (fun e32 hf => ?_) (fun n33 hf => ?_)
  · refine lv_tableIn (x := p1) (tgt := 124) hx hb dX9_count_1 (by rw [e32]; decide) (by rw [e32]; decide) (by rw [e32]; rfl) (by decide) ?_
    refine lv_aload_n hx hb dX9_count_124 rfl (lv_at hl 0 rfl) ?_
    refine gf_X9_10 S hK hP h0 dX9_count_125 hf (fun x29 hx29 hf => ?_)
    refine gf_X9_215 S hK hP hx29 dX9_count_128 hf (fun x30 hx30 hf => ?_)
    refine gf_X9_352 S hK hP hx30 dX9_count_131 hf (fun x31 hf => ?_)
    exact hret _ _ _ _ _ _ dX9_count_134 hP hS rfl hf
  refine r_case hf (fun e37 hf => ?_) (fun n38 hf => ?_)
  · refine lv_tableIn (x := p1) (tgt := 135) hx hb dX9_count_1 (by rw [e37]; decide) (by rw [e37]; decide) (by rw [e37]; rfl) (by decide) ?_
    refine lv_aload_n hx hb dX9_count_135 rfl (lv_at hl 0 rfl) ?_
    refine gf_X9_10 S hK hP h0 dX9_count_136 hf (fun x34 hx34 hf => ?_)
    refine gf_X9_233 S hK hP hx34 dX9_count_139 hf (fun x35 hx35 hf => ?_)
    refine gf_X9_243 S hK hP hx35 dX9_count_142 hf (fun x36 hf => ?_)
    exact hret _ _ _ _ _ _ dX9_count_145 hP hS rfl hf
  refine r_case hf (fun e42 hf => ?_) (fun n43 hf => ?_)
  · refine lv_tableIn (x := p1) (tgt := 146) hx hb dX9_count_1 (by rw [e42]; decide) (by rw [e42]; decide) (by rw [e42]; rfl) (by decide) ?_
    refine lv_aload_n hx hb dX9_count_146 rfl (lv_at hl 0 rfl) ?_
    refine gf_X9_10 S hK hP h0 dX9_count_147 hf (fun x39 hx39 hf => ?_)
    refine gf_X9_233 S hK hP hx39 dX9_count_150 hf (fun x40 hx40 hf => ?_)
    refine gf_X9_265 S hK hP hx40 dX9_count_153 hf (fun x41 hf => ?_)
    exact hret _ _ _ _ _ _ dX9_count_156 hP hS rfl hf
  refine r_case hf (fun e45 hf => ?_) (fun n46 hf => ?_)
  · refine lv_tableIn (x := p1) (tgt := 157) hx hb dX9_count_1 (by rw [e45]; decide) (by rw [e45]; decide) (by rw [e45]; rfl) (by decide) ?_
    refine lv_aload_n hx hb dX9_count_157 rfl (lv_at hl 0 rfl) ?_
    refine gf_X9_336 S hK hP h0 dX9_count_158 hf (fun x44 hf => ?_)
    exact hret _ _ _ _ _ _ dX9_count_161 hP hS rfl hf
  refine r_case hf (fun e49 hf => ?_) (fun n50 hf => ?_)
  · refine lv_tableIn (x := p1) (tgt := 162) hx hb dX9_count_1 (by rw [e49]; decide) (by rw [e49]; decide) (by rw [e49]; rfl) (by decide) ?_
    refine lv_aload_n hx hb dX9_count_162 rfl (lv_at hl 0 rfl) ?_
    refine gf_X9_22 S hK hP h0 dX9_count_163 hf (fun x47 hx47 hf => ?_)
    refine gf_X9_133 S hK hP hx47 dX9_count_166 hf (fun x48 hf => ?_)
    exact hret _ _ _ _ _ _ dX9_count_169 hP hS rfl hf
  refine r_case hf (fun e53 hf => ?_) (fun n54 hf => ?_)
  · refine lv_tableIn (x := p1) (tgt := 170) hx hb dX9_count_1 (by rw [e53]; decide) (by rw [e53]; decide) (by rw [e53]; rfl) (by decide) ?_
    refine lv_aload_n hx hb dX9_count_170 rfl (lv_at hl 0 rfl) ?_
    refine gf_X9_10 S hK hP h0 dX9_count_171 hf (fun x51 hx51 hf => ?_)
    refine gf_X9_271 S hK hP hx51 dX9_count_174 hf (fun x52 hf => ?_)
    exact hret _ _ _ _ _ _ dX9_count_177 hP hS rfl hf
  refine lv_tableOut (x := p1) (tgt := 178) hx hb dX9_count_1 (by have q0 := lv_neT (a := 0) n5 (by decide); have q1 := lv_neT (a := 1) n10 (by decide); have q2 := lv_neT (a := 2) n14 (by decide); have q3 := lv_neT (a := 3) n19 (by decide); have q4 := lv_neT (a := 4) n24 (by decide); have q5 := lv_neT (a := 5) n28 (by decide); have q6 := lv_neT (a := 6) n33 (by decide); have q7 := lv_neT (a := 7) n38 (by decide); have q8 := lv_neT (a := 8) n43 (by decide); have q9 := lv_neT (a := 9) n46 (by decide); have q10 := lv_neT (a := 10) n50 (by decide); have q11 := lv_neT (a := 11) n54 (by decide); omega) (by decide) ?_
  refine lv_ldc (v := (-1000000001)) hx hb hown (ht _ k_405) dX9_count_178 ?_
  exact hret _ _ _ _ _ _ dX9_count_180 hP hS rfl hf
