/-! THE LAW'S LOOP -/
def gA (G : Gr) (ad : Nat → Nat) : Nat → Prop := fun q => ∃ i, i < G.length ∧ q = ad i
def OpOK (I : Mem → Mem → Prop) (f g : Mem → Option (Int32 × Mem)) : Prop := ∀ M1 M2, I M1 M2 → ∃ r M1' M2', f M1 = some (r, M1') ∧ g M2 = some (r, M2') ∧ I M1' M2'
theorem e1_narrow {A B : Nat → Prop} {tC tA tP : Nat} {kK kV : Nat → Nat} {U : State} (h : E1 A tC tA tP kK kV U) (hAB : ∀ q, B q → A q) : E1 B tC tA tP kK kV U := by
  obtain ⟨⟨a0, c0⟩, ⟨a1, c1⟩, ⟨a2, c2⟩, a3, a4, a5, a6, a7, a8, a9, a10, a11, a12, a13, a14, a15, a16⟩ := h
  exact ⟨⟨a0.narrow hAB, c0.narrow hAB⟩, ⟨a1.narrow hAB, c1.narrow hAB⟩, ⟨a2.narrow hAB, c2.narrow hAB⟩, a3, a4, a5, a6, a7, a8.narrow hAB, a9.narrow hAB, a10, a11, a12, a13, a14, a15, a16.narrow hAB⟩
/-- the two systems side by side: apart, and all made by the law -/
def Two (s : State) (ad1 ad2 : Nat → Nat) : Prop := (∀ i j, i < G1.length → j < G1.length → ad1 i = ad1 j → i = j) ∧ (∀ i j, i < G2.length → j < G2.length → ad2 i = ad2 j → i = j) ∧ (∀ i j, i < G1.length → j < G2.length → ad1 i ≠ ad2 j) ∧ (∀ i, i < G1.length → s.heap.size ≤ ad1 i) ∧ ∀ i, i < G2.length → s.heap.size ≤ ad2 i
theorem Two.g1 {s : State} {ad1 ad2 : Nat → Nat} (h : Two s ad1 ad2) : Gok G1 ad1 (gA G1 ad1) := ⟨h.1, fun i hi => ⟨i, hi, rfl⟩⟩
theorem Two.g2 {s : State} {ad1 ad2 : Nat → Nat} (h : Two s ad1 ad2) : Gok G2 ad2 (gA G2 ad2) := ⟨h.2.1, fun i hi => ⟨i, hi, rfl⟩⟩
section
variable {p : Program} {l : Launch} {e : Env} {s : State} {m : MethodId} {below : List Frame} {meth : Method} {c : Code} {Q : State → Prop} {b L : Nat} {xs : Nat → Int32} {D : va_G} {K : Ks} {ad1 ad2 : Nat → Nat} {tC tA tP : Nat} {kK kV : Nat → Nat} {M1 M2 : Mem} {H : Heap} {locs : List Loc} {ls : Array Slot} {pc : Nat} {rest st0 : List Value} {cells slots : Nat} {R : Room} {args : Array Value} {cc : ByteArray} {nL : Nat} {own : String}
theorem q_call1 (S : CallFix p m c cc nL s args Tw own) (hK : va_K D classes (gty K) s) (hE : E1 (fun q : Nat => s.heap.size ≤ q) tC tA tP kK kV s) (hT : Two s ad1 ad2) (hP1 : va_P D classes (gws K G1 ad1 M1) H) (hP2 : va_P D classes (gws K G2 ad2 M2) H) (hS : va_S (fun q : Nat => s.heap.size ≤ q) s.heap H locs) {y : MethodName} {bytes : ByteArray} {maxL index n : Nat} {rm : Room} {As : List Value} {r : Int32} {M1' : Mem}
    (cw : CallW R s args own RX9 index y bytes maxL (some .int) (ws_of y bytes maxL (some .int)) rm 0 0 n) (hn : As.length = n) (hsz : ls.size = nL) (hst0 : st0 = As.reverse ++ .ref (ad1 0) :: rest) (hW : (rest.map fun v => v.category).sum ≤ 8) (hdg : decode cc pc = .ok (.invokevirtual index, 3)) (hfit : cells ≤ R.cells ∧ slots ≤ R.slots)
    (hC : Ct l (E1 (gA G1 ad1) tC tA tP kK kV) D K G1 ad1 (gA G1 ad1) y (ws_of y bytes maxL (some .int)) rm .int (.ref (ad1 0) :: As) M1 r M1')
    (w : ∀ H locs, va_P D classes (gws K G1 ad1 M1') H → va_P D classes (gws K G2 ad2 M2) H → va_S (fun q : Nat => s.heap.size ≤ q) s.heap H locs → W p l e R s m args below meth c H locs cells slots Q (F0 m (pc + 3) ls (.int r :: rest))) : W p l e R s m args below meth c H locs cells slots Q (F0 m pc ls st0) := by
  have hA : ∀ q, gA G1 ad1 q → s.heap.size ≤ q := fun q ⟨i, hi, e⟩ => by rw [e]; exact hT.2.2.2.1 i hi
  have hl : 0 < G1.length := by decide
  refine va_calli (va_runV (As := As) (rest := rest) S hC cw ⟨ct_blind est1, va_recv hK hP1 (ci := 9) (q0 := 0) (q := (RX9, TX9, 8)) rfl (by rw [gws_at hl, gce_ob (ci := 9) rfl (by decide)]), fun U hU hW => ⟨rfl, by rw [hU]; exact hP1, va_K.moved hW.alike hK, e1_narrow (est1.1 s U locs hW (by rw [hU]; exact hS) hE) hA⟩⟩ rfl hn hsz hst0 (lv_room hW) hdg ⟨hfit.1, hfit.2⟩) hS (fun q _ h => hA q h) (fun q h => hA q h) (fun r' u t H1 locs1 ht hvm hw hB hz1 hk1 hS1 => ?_)
  obtain ⟨rfl, -⟩ := hw
  refine w H1 locs1 (by rw [← ht]; exact hB) (hP2.kept (fun k q hk => ?_)) hS1
  obtain ⟨hk2, rfl⟩ := gws_in hk
  exact hk1 _ (hP2 k _ hk).lt (fun ⟨i, hi, e⟩ => hT.2.2.1 i k hi hk2 e.symm)
theorem q_call2 (S : CallFix p m c cc nL s args Tw own) (hK : va_K D classes (gty K) s) (hT : Two s ad1 ad2) (hP1 : va_P D classes (gws K G1 ad1 M1) H) (hP2 : va_P D classes (gws K G2 ad2 M2) H) (hS : va_S (fun q : Nat => s.heap.size ≤ q) s.heap H locs) {y : MethodName} {bytes : ByteArray} {maxL index n : Nat} {rm : Room} {As : List Value} {r : Int32} {M2' : Mem}
    (cw : CallW R s args own RX10 index y bytes maxL (some .int) (ws_of y bytes maxL (some .int)) rm 0 0 n) (hn : As.length = n) (hsz : ls.size = nL) (hst0 : st0 = As.reverse ++ .ref (ad2 0) :: rest) (hW : (rest.map fun v => v.category).sum ≤ 8) (hdg : decode cc pc = .ok (.invokevirtual index, 3)) (hfit : cells ≤ R.cells ∧ slots ≤ R.slots)
    (hC : Ct l E2 D K G2 ad2 (gA G2 ad2) y (ws_of y bytes maxL (some .int)) rm .int (.ref (ad2 0) :: As) M2 r M2')
    (w : ∀ H locs, va_P D classes (gws K G1 ad1 M1) H → va_P D classes (gws K G2 ad2 M2') H → va_S (fun q : Nat => s.heap.size ≤ q) s.heap H locs → W p l e R s m args below meth c H locs cells slots Q (F0 m (pc + 3) ls (.int r :: rest))) : W p l e R s m args below meth c H locs cells slots Q (F0 m pc ls st0) := by
  have hA : ∀ q, gA G2 ad2 q → s.heap.size ≤ q := fun q ⟨i, hi, e⟩ => by rw [e]; exact hT.2.2.2.2 i hi
  have hl : 0 < G2.length := by decide
  refine va_calli (va_runV (As := As) (rest := rest) S hC cw ⟨ct_blind (A := gA G2 ad2) est2, va_recv hK hP2 (ci := 10) (q0 := 0) (q := (RX10, TX10, 39)) rfl (by rw [gws_at hl, gce_ob (ci := 10) rfl (by decide)]), fun U hU hW => ⟨rfl, by rw [hU]; exact hP2, va_K.moved hW.alike hK, trivial⟩⟩ rfl hn hsz hst0 (lv_room hW) hdg ⟨hfit.1, hfit.2⟩) hS (fun q _ h => hA q h) (fun q h => hA q h) (fun r' u t H1 locs1 ht hvm hw hB hz1 hk1 hS1 => ?_)
  obtain ⟨rfl, -⟩ := hw
  refine w H1 locs1 (hP1.kept (fun k q hk => ?_)) (by rw [← ht]; exact hB) hS1
  obtain ⟨hk2, rfl⟩ := gws_in hk
  exact hk1 _ (hP1 k _ hk).lt (fun ⟨i, hi, e⟩ => hT.2.2.1 k i hk2 hi e)
end
theorem sv0 {k L : Nat} (h : k + 6 ≤ L) (hL : L ≤ 3072) : vp_in (nI k) L := by exact vp_in_nI (by omega) (by omega)
theorem sv1 {k L : Nat} (h : k + 6 ≤ L) (hL : L ≤ 3072) : vp_in (nI k + 1) L := by rw [show nI k + 1 = nI (k + 1) from nI_add k 1]; exact vp_in_nI (by omega) (by omega)
theorem sv2 {k L : Nat} (h : k + 6 ≤ L) (hL : L ≤ 3072) : vp_in (nI k + 2) L := by rw [show nI k + 2 = nI (k + 2) from nI_add k 2]; exact vp_in_nI (by omega) (by omega)
theorem sv3 {k L : Nat} (h : k + 6 ≤ L) (hL : L ≤ 3072) : vp_in (nI k + 3) L := by rw [show nI k + 3 = nI (k + 3) from nI_add k 3]; exact vp_in_nI (by omega) (by omega)
theorem sv4 {k L : Nat} (h : k + 6 ≤ L) (hL : L ≤ 3072) : vp_in (nI k + 4) L := by rw [show nI k + 4 = nI (k + 4) from nI_add k 4]; exact vp_in_nI (by omega) (by omega)
theorem sv5 {k L : Nat} (h : k + 6 ≤ L) (hL : L ≤ 3072) : vp_in (nI k + 5) L := by rw [show nI k + 5 = nI (k + 5) from nI_add k 5]; exact vp_in_nI (by omega) (by omega)
theorem cw_L_13 {R : Room} {s : State} {args : Array Value} (ht : ∀ w ∈ Tw, w.before args s = true) (hR : rm_X9_table.frames + 1 ≤ R.frames ∧ 8 + (2 + 11) + rm_X9_table.locals ≤ R.locals) : CallW R s args RL RX9 13 yX9_table cX9_table 2 (some .int) (ws_of yX9_table cX9_table 2 (some .int)) rm_X9_table 0 0 1 := cw_V 1 ht k_398 k_399 k_400 k_63 k_401 (by decide +kernel) rfl rfl hR
theorem cw_L_17 {R : Room} {s : State} {args : Array Value} (ht : ∀ w ∈ Tw, w.before args s = true) (hR : rm_X10_table.frames + 1 ≤ R.frames ∧ 8 + (2 + 11) + rm_X10_table.locals ≤ R.locals) : CallW R s args RL RX10 17 yX10_table cX10_table 2 (some .int) (ws_of yX10_table cX10_table 2 (some .int)) rm_X10_table 0 0 1 := cw_V 1 ht k_1224 k_1225 k_1226 k_73 k_1227 (by decide +kernel) rfl rfl hR
theorem cw_L_18 {R : Room} {s : State} {args : Array Value} (ht : ∀ w ∈ Tw, w.before args s = true) (hR : rm_X9_figure.frames + 1 ≤ R.frames ∧ 8 + (7 + 11) + rm_X9_figure.locals ≤ R.locals) : CallW R s args RL RX9 18 yX9_figure cX9_figure 7 (some .int) (ws_of yX9_figure cX9_figure 7 (some .int)) rm_X9_figure 0 0 5 := cw_V 5 ht k_412 k_413 k_414 k_63 k_415 (by decide +kernel) rfl rfl hR
theorem cw_L_22 {R : Room} {s : State} {args : Array Value} (ht : ∀ w ∈ Tw, w.before args s = true) (hR : rm_X10_figure.frames + 1 ≤ R.frames ∧ 8 + (6 + 11) + rm_X10_figure.locals ≤ R.locals) : CallW R s args RL RX10 22 yX10_figure cX10_figure 6 (some .int) (ws_of yX10_figure cX10_figure 6 (some .int)) rm_X10_figure 0 0 5 := cw_V 5 ht k_1235 k_1236 k_1237 k_73 k_1238 (by decide +kernel) rfl rfl hR
theorem cw_L_23 {R : Room} {s : State} {args : Array Value} (ht : ∀ w ∈ Tw, w.before args s = true) (hR : rm_X9_told.frames + 1 ≤ R.frames ∧ 8 + (4 + 11) + rm_X9_told.locals ≤ R.locals) : CallW R s args RL RX9 23 yX9_told cX9_told 4 (some .int) (ws_of yX9_told cX9_told 4 (some .int)) rm_X9_told 0 0 2 := cw_V 2 ht k_435 k_436 k_437 k_63 k_438 (by decide +kernel) rfl rfl hR
theorem cw_L_27 {R : Room} {s : State} {args : Array Value} (ht : ∀ w ∈ Tw, w.before args s = true) (hR : rm_X10_told.frames + 1 ≤ R.frames ∧ 8 + (4 + 11) + rm_X10_told.locals ≤ R.locals) : CallW R s args RL RX10 27 yX10_told cX10_told 4 (some .int) (ws_of yX10_told cX10_told 4 (some .int)) rm_X10_told 0 0 2 := cw_V 2 ht k_1261 k_1262 k_1263 k_73 k_1264 (by decide +kernel) rfl rfl hR
theorem cw_L_28 {R : Room} {s : State} {args : Array Value} (ht : ∀ w ∈ Tw, w.before args s = true) (hR : rm_X9_as.frames + 1 ≤ R.frames ∧ 8 + (3 + 11) + rm_X9_as.locals ≤ R.locals) : CallW R s args RL RX9 28 yX9_as cX9_as 3 (some .int) (ws_of yX9_as cX9_as 3 (some .int)) rm_X9_as 0 0 2 := cw_V 2 ht k_511 k_512 k_513 k_63 k_514 (by decide +kernel) rfl rfl hR
theorem cw_L_31 {R : Room} {s : State} {args : Array Value} (ht : ∀ w ∈ Tw, w.before args s = true) (hR : rm_X10_as.frames + 1 ≤ R.frames ∧ 8 + (3 + 11) + rm_X10_as.locals ≤ R.locals) : CallW R s args RL RX10 31 yX10_as cX10_as 3 (some .int) (ws_of yX10_as cX10_as 3 (some .int)) rm_X10_as 0 0 2 := cw_V 2 ht k_1315 k_1316 k_1317 k_73 k_1318 (by decide +kernel) rfl rfl hR
theorem cw_L_32 {R : Room} {s : State} {args : Array Value} (ht : ∀ w ∈ Tw, w.before args s = true) (hR : rm_X9_turns.frames + 1 ≤ R.frames ∧ 8 + (4 + 11) + rm_X9_turns.locals ≤ R.locals) : CallW R s args RL RX9 32 yX9_turns cX9_turns 4 (some .int) (ws_of yX9_turns cX9_turns 4 (some .int)) rm_X9_turns 0 0 2 := cw_V 2 ht k_521 k_522 k_523 k_63 k_524 (by decide +kernel) rfl rfl hR
theorem cw_L_35 {R : Room} {s : State} {args : Array Value} (ht : ∀ w ∈ Tw, w.before args s = true) (hR : rm_X10_turns.frames + 1 ≤ R.frames ∧ 8 + (3 + 11) + rm_X10_turns.locals ≤ R.locals) : CallW R s args RL RX10 35 yX10_turns cX10_turns 3 (some .int) (ws_of yX10_turns cX10_turns 3 (some .int)) rm_X10_turns 0 0 2 := cw_V 2 ht k_1323 k_1324 k_1325 k_73 k_1326 (by decide +kernel) rfl rfl hR
theorem cw_L_36 {R : Room} {s : State} {args : Array Value} (ht : ∀ w ∈ Tw, w.before args s = true) (hR : rm_X9_base.frames + 1 ≤ R.frames ∧ 8 + (3 + 11) + rm_X9_base.locals ≤ R.locals) : CallW R s args RL RX9 36 yX9_base cX9_base 3 (some .int) (ws_of yX9_base cX9_base 3 (some .int)) rm_X9_base 0 0 1 := cw_V 1 ht k_525 k_526 k_527 k_63 k_528 (by decide +kernel) rfl rfl hR
theorem cw_L_39 {R : Room} {s : State} {args : Array Value} (ht : ∀ w ∈ Tw, w.before args s = true) (hR : rm_X10_base.frames + 1 ≤ R.frames ∧ 8 + (2 + 11) + rm_X10_base.locals ≤ R.locals) : CallW R s args RL RX10 39 yX10_base cX10_base 2 (some .int) (ws_of yX10_base cX10_base 2 (some .int)) rm_X10_base 0 0 1 := cw_V 1 ht k_1331 k_1332 k_1333 k_73 k_1334 (by decide +kernel) rfl rfl hR
theorem cw_L_40 {R : Room} {s : State} {args : Array Value} (ht : ∀ w ∈ Tw, w.before args s = true) (hR : rm_X9_feed.frames + 1 ≤ R.frames ∧ 8 + (4 + 11) + rm_X9_feed.locals ≤ R.locals) : CallW R s args RL RX9 40 yX9_feed cX9_feed 4 (some .int) (ws_of yX9_feed cX9_feed 4 (some .int)) rm_X9_feed 0 0 3 := cw_V 3 ht k_529 k_530 k_531 k_63 k_532 (by decide +kernel) rfl rfl hR
theorem cw_L_44 {R : Room} {s : State} {args : Array Value} (ht : ∀ w ∈ Tw, w.before args s = true) (hR : rm_X10_feed.frames + 1 ≤ R.frames ∧ 8 + (6 + 11) + rm_X10_feed.locals ≤ R.locals) : CallW R s args RL RX10 44 yX10_feed cX10_feed 6 (some .int) (ws_of yX10_feed cX10_feed 6 (some .int)) rm_X10_feed 0 0 3 := cw_V 3 ht k_1335 k_1336 k_1337 k_73 k_1338 (by decide +kernel) rfl rfl hR
theorem cw_L_45 {R : Room} {s : State} {args : Array Value} (ht : ∀ w ∈ Tw, w.before args s = true) (hR : rm_X9_trim.frames + 1 ≤ R.frames ∧ 8 + (2 + 11) + rm_X9_trim.locals ≤ R.locals) : CallW R s args RL RX9 45 yX9_trim cX9_trim 2 (some .int) (ws_of yX9_trim cX9_trim 2 (some .int)) rm_X9_trim 0 0 1 := cw_V 1 ht k_537 k_538 k_539 k_63 k_540 (by decide +kernel) rfl rfl hR
theorem cw_L_48 {R : Room} {s : State} {args : Array Value} (ht : ∀ w ∈ Tw, w.before args s = true) (hR : rm_X10_trim.frames + 1 ≤ R.frames ∧ 8 + (2 + 11) + rm_X10_trim.locals ≤ R.locals) : CallW R s args RL RX10 48 yX10_trim cX10_trim 2 (some .int) (ws_of yX10_trim cX10_trim 2 (some .int)) rm_X10_trim 0 0 1 := cw_V 1 ht k_1339 k_1340 k_1341 k_73 k_1342 (by decide +kernel) rfl rfl hR
theorem cw_L_49 {R : Room} {s : State} {args : Array Value} (ht : ∀ w ∈ Tw, w.before args s = true) (hR : rm_X9_text.frames + 1 ≤ R.frames ∧ 8 + (1 + 11) + rm_X9_text.locals ≤ R.locals) : CallW R s args RL RX9 49 yX9_text cX9_text 1 (some .int) (ws_of yX9_text cX9_text 1 (some .int)) rm_X9_text 0 0 0 := cw_V 0 ht k_541 k_542 k_543 k_63 k_544 (by decide +kernel) rfl rfl hR
theorem cw_L_53 {R : Room} {s : State} {args : Array Value} (ht : ∀ w ∈ Tw, w.before args s = true) (hR : rm_X10_text.frames + 1 ≤ R.frames ∧ 8 + (3 + 11) + rm_X10_text.locals ≤ R.locals) : CallW R s args RL RX10 53 yX10_text cX10_text 3 (some .int) (ws_of yX10_text cX10_text 3 (some .int)) rm_X10_text 0 0 0 := cw_V 0 ht k_1343 k_1344 k_1345 k_73 k_1346 (by decide +kernel) rfl rfl hR
theorem cw_L_54 {R : Room} {s : State} {args : Array Value} (ht : ∀ w ∈ Tw, w.before args s = true) (hR : rm_X9_of.frames + 1 ≤ R.frames ∧ 8 + (4 + 11) + rm_X9_of.locals ≤ R.locals) : CallW R s args RL RX9 54 yX9_of cX9_of 4 (some .int) (ws_of yX9_of cX9_of 4 (some .int)) rm_X9_of 0 0 2 := cw_V 2 ht k_730 k_731 k_732 k_63 k_733 (by decide +kernel) rfl rfl hR
theorem cw_L_57 {R : Room} {s : State} {args : Array Value} (ht : ∀ w ∈ Tw, w.before args s = true) (hR : rm_X10_of.frames + 1 ≤ R.frames ∧ 8 + (4 + 11) + rm_X10_of.locals ≤ R.locals) : CallW R s args RL RX10 57 yX10_of cX10_of 4 (some .int) (ws_of yX10_of cX10_of 4 (some .int)) rm_X10_of 0 0 2 := cw_V 2 ht k_1418 k_1419 k_1420 k_73 k_1421 (by decide +kernel) rfl rfl hR
theorem cw_L_58 {R : Room} {s : State} {args : Array Value} (ht : ∀ w ∈ Tw, w.before args s = true) (hR : rm_X9_why.frames + 1 ≤ R.frames ∧ 8 + (3 + 11) + rm_X9_why.locals ≤ R.locals) : CallW R s args RL RX9 58 yX9_why cX9_why 3 (some .int) (ws_of yX9_why cX9_why 3 (some .int)) rm_X9_why 0 0 2 := cw_V 2 ht k_734 k_735 k_736 k_63 k_737 (by decide +kernel) rfl rfl hR
theorem cw_L_61 {R : Room} {s : State} {args : Array Value} (ht : ∀ w ∈ Tw, w.before args s = true) (hR : rm_X10_why.frames + 1 ≤ R.frames ∧ 8 + (3 + 11) + rm_X10_why.locals ≤ R.locals) : CallW R s args RL RX10 61 yX10_why cX10_why 3 (some .int) (ws_of yX10_why cX10_why 3 (some .int)) rm_X10_why 0 0 2 := cw_V 2 ht k_1427 k_1428 k_1429 k_73 k_1430 (by decide +kernel) rfl rfl hR
theorem cw_L_62 {R : Room} {s : State} {args : Array Value} (ht : ∀ w ∈ Tw, w.before args s = true) (hR : rm_X9_line.frames + 1 ≤ R.frames ∧ 8 + (6 + 11) + rm_X9_line.locals ≤ R.locals) : CallW R s args RL RX9 62 yX9_line cX9_line 6 (some .int) (ws_of yX9_line cX9_line 6 (some .int)) rm_X9_line 0 0 2 := cw_V 2 ht k_739 k_740 k_741 k_63 k_742 (by decide +kernel) rfl rfl hR
theorem cw_L_65 {R : Room} {s : State} {args : Array Value} (ht : ∀ w ∈ Tw, w.before args s = true) (hR : rm_X10_line.frames + 1 ≤ R.frames ∧ 8 + (5 + 11) + rm_X10_line.locals ≤ R.locals) : CallW R s args RL RX10 65 yX10_line cX10_line 5 (some .int) (ws_of yX10_line cX10_line 5 (some .int)) rm_X10_line 0 0 2 := cw_V 2 ht k_1432 k_1433 k_1434 k_73 k_1435 (by decide +kernel) rfl rfl hR
theorem cw_L_66 {R : Room} {s : State} {args : Array Value} (ht : ∀ w ∈ Tw, w.before args s = true) (hR : rm_X9_run.frames + 1 ≤ R.frames ∧ 8 + (7 + 11) + rm_X9_run.locals ≤ R.locals) : CallW R s args RL RX9 66 yX9_run cX9_run 7 (some .int) (ws_of yX9_run cX9_run 7 (some .int)) rm_X9_run 0 0 3 := cw_V 3 ht k_761 k_762 k_763 k_63 k_764 (by decide +kernel) rfl rfl hR
theorem cw_L_69 {R : Room} {s : State} {args : Array Value} (ht : ∀ w ∈ Tw, w.before args s = true) (hR : rm_X10_run.frames + 1 ≤ R.frames ∧ 8 + (4 + 11) + rm_X10_run.locals ≤ R.locals) : CallW R s args RL RX10 69 yX10_run cX10_run 4 (some .int) (ws_of yX10_run cX10_run 4 (some .int)) rm_X10_run 0 0 3 := cw_V 3 ht k_1441 k_1442 k_1443 k_73 k_1444 (by decide +kernel) rfl rfl hR
theorem cw_L_70 {R : Room} {s : State} {args : Array Value} (ht : ∀ w ∈ Tw, w.before args s = true) (hR : rm_X9_soon.frames + 1 ≤ R.frames ∧ 8 + (8 + 11) + rm_X9_soon.locals ≤ R.locals) : CallW R s args RL RX9 70 yX9_soon cX9_soon 8 (some .int) (ws_of yX9_soon cX9_soon 8 (some .int)) rm_X9_soon 0 0 2 := cw_V 2 ht k_790 k_791 k_792 k_63 k_793 (by decide +kernel) rfl rfl hR
theorem cw_L_73 {R : Room} {s : State} {args : Array Value} (ht : ∀ w ∈ Tw, w.before args s = true) (hR : rm_X10_soon.frames + 1 ≤ R.frames ∧ 8 + (8 + 11) + rm_X10_soon.locals ≤ R.locals) : CallW R s args RL RX10 73 yX10_soon cX10_soon 8 (some .int) (ws_of yX10_soon cX10_soon 8 (some .int)) rm_X10_soon 0 0 2 := cw_V 2 ht k_1465 k_1466 k_1467 k_73 k_1468 (by decide +kernel) rfl rfl hR
theorem cw_L_74 {R : Room} {s : State} {args : Array Value} (ht : ∀ w ∈ Tw, w.before args s = true) (hR : rm_X9_even.frames + 1 ≤ R.frames ∧ 8 + (4 + 11) + rm_X9_even.locals ≤ R.locals) : CallW R s args RL RX9 74 yX9_even cX9_even 4 (some .int) (ws_of yX9_even cX9_even 4 (some .int)) rm_X9_even 0 0 0 := cw_V 0 ht k_794 k_795 k_796 k_63 k_797 (by decide +kernel) rfl rfl hR
theorem cw_L_77 {R : Room} {s : State} {args : Array Value} (ht : ∀ w ∈ Tw, w.before args s = true) (hR : rm_X10_even.frames + 1 ≤ R.frames ∧ 8 + (4 + 11) + rm_X10_even.locals ≤ R.locals) : CallW R s args RL RX10 77 yX10_even cX10_even 4 (some .int) (ws_of yX10_even cX10_even 4 (some .int)) rm_X10_even 0 0 0 := cw_V 0 ht k_1470 k_1471 k_1472 k_73 k_1473 (by decide +kernel) rfl rfl hR
theorem cw_L_78 {R : Room} {s : State} {args : Array Value} (ht : ∀ w ∈ Tw, w.before args s = true) (hR : rm_X9_digit.frames + 1 ≤ R.frames ∧ 8 + (2 + 11) + rm_X9_digit.locals ≤ R.locals) : CallW R s args RL RX9 78 yX9_digit cX9_digit 2 (some .int) (ws_of yX9_digit cX9_digit 2 (some .int)) rm_X9_digit 0 0 1 := cw_V 1 ht k_802 k_803 k_804 k_63 k_805 (by decide +kernel) rfl rfl hR
theorem cw_L_81 {R : Room} {s : State} {args : Array Value} (ht : ∀ w ∈ Tw, w.before args s = true) (hR : rm_X10_digit.frames + 1 ≤ R.frames ∧ 8 + (2 + 11) + rm_X10_digit.locals ≤ R.locals) : CallW R s args RL RX10 81 yX10_digit cX10_digit 2 (some .int) (ws_of yX10_digit cX10_digit 2 (some .int)) rm_X10_digit 0 0 1 := cw_V 1 ht k_1478 k_1479 k_1480 k_73 k_1481 (by decide +kernel) rfl rfl hR
theorem cw_L_82 {R : Room} {s : State} {args : Array Value} (ht : ∀ w ∈ Tw, w.before args s = true) (hR : rm_X9_odd.frames + 1 ≤ R.frames ∧ 8 + (3 + 11) + rm_X9_odd.locals ≤ R.locals) : CallW R s args RL RX9 82 yX9_odd cX9_odd 3 (some .int) (ws_of yX9_odd cX9_odd 3 (some .int)) rm_X9_odd 0 0 0 := cw_V 0 ht k_806 k_807 k_808 k_63 k_809 (by decide +kernel) rfl rfl hR
theorem cw_L_85 {R : Room} {s : State} {args : Array Value} (ht : ∀ w ∈ Tw, w.before args s = true) (hR : rm_X10_odd.frames + 1 ≤ R.frames ∧ 8 + (5 + 11) + rm_X10_odd.locals ≤ R.locals) : CallW R s args RL RX10 85 yX10_odd cX10_odd 5 (some .int) (ws_of yX10_odd cX10_odd 5 (some .int)) rm_X10_odd 0 0 0 := cw_V 0 ht k_1483 k_1484 k_1485 k_73 k_1486 (by decide +kernel) rfl rfl hR
theorem cw_L_86 {R : Room} {s : State} {args : Array Value} (ht : ∀ w ∈ Tw, w.before args s = true) (hR : rm_X9_choose.frames + 1 ≤ R.frames ∧ 8 + (3 + 11) + rm_X9_choose.locals ≤ R.locals) : CallW R s args RL RX9 86 yX9_choose cX9_choose 3 (some .int) (ws_of yX9_choose cX9_choose 3 (some .int)) rm_X9_choose 0 0 1 := cw_V 1 ht k_815 k_816 k_817 k_63 k_818 (by decide +kernel) rfl rfl hR
theorem cw_L_89 {R : Room} {s : State} {args : Array Value} (ht : ∀ w ∈ Tw, w.before args s = true) (hR : rm_X10_choose.frames + 1 ≤ R.frames ∧ 8 + (3 + 11) + rm_X10_choose.locals ≤ R.locals) : CallW R s args RL RX10 89 yX10_choose cX10_choose 3 (some .int) (ws_of yX10_choose cX10_choose 3 (some .int)) rm_X10_choose 0 0 1 := cw_V 1 ht k_1487 k_1488 k_1489 k_73 k_1490 (by decide +kernel) rfl rfl hR
theorem cw_L_90 {R : Room} {s : State} {args : Array Value} (ht : ∀ w ∈ Tw, w.before args s = true) (hR : rm_X9_story.frames + 1 ≤ R.frames ∧ 8 + (7 + 11) + rm_X9_story.locals ≤ R.locals) : CallW R s args RL RX9 90 yX9_story cX9_story 7 (some .int) (ws_of yX9_story cX9_story 7 (some .int)) rm_X9_story 0 0 2 := cw_V 2 ht k_819 k_820 k_821 k_63 k_822 (by decide +kernel) rfl rfl hR
theorem cw_L_93 {R : Room} {s : State} {args : Array Value} (ht : ∀ w ∈ Tw, w.before args s = true) (hR : rm_X10_story.frames + 1 ≤ R.frames ∧ 8 + (6 + 11) + rm_X10_story.locals ≤ R.locals) : CallW R s args RL RX10 93 yX10_story cX10_story 6 (some .int) (ws_of yX10_story cX10_story 6 (some .int)) rm_X10_story 0 0 2 := cw_V 2 ht k_1491 k_1492 k_1493 k_73 k_1494 (by decide +kernel) rfl rfl hR
theorem cw_L_94 {R : Room} {s : State} {args : Array Value} (ht : ∀ w ∈ Tw, w.before args s = true) (hR : rm_X9_clear.frames + 1 ≤ R.frames ∧ 8 + (2 + 11) + rm_X9_clear.locals ≤ R.locals) : CallW R s args RL RX9 94 yX9_clear cX9_clear 2 (some .int) (ws_of yX9_clear cX9_clear 2 (some .int)) rm_X9_clear 0 0 0 := cw_V 0 ht k_832 k_833 k_834 k_63 k_835 (by decide +kernel) rfl rfl hR
theorem cw_L_97 {R : Room} {s : State} {args : Array Value} (ht : ∀ w ∈ Tw, w.before args s = true) (hR : rm_X10_clear.frames + 1 ≤ R.frames ∧ 8 + (1 + 11) + rm_X10_clear.locals ≤ R.locals) : CallW R s args RL RX10 97 yX10_clear cX10_clear 1 (some .int) (ws_of yX10_clear cX10_clear 1 (some .int)) rm_X10_clear 0 0 0 := cw_V 0 ht k_1500 k_1501 k_1502 k_73 k_1503 (by decide +kernel) rfl rfl hR
theorem cw_L_98 {R : Room} {s : State} {args : Array Value} (ht : ∀ w ∈ Tw, w.before args s = true) (hR : rm_X9_road.frames + 1 ≤ R.frames ∧ 8 + (4 + 11) + rm_X9_road.locals ≤ R.locals) : CallW R s args RL RX9 98 yX9_road cX9_road 4 (some .int) (ws_of yX9_road cX9_road 4 (some .int)) rm_X9_road 0 0 3 := cw_V 3 ht k_836 k_837 k_838 k_63 k_839 (by decide +kernel) rfl rfl hR
theorem cw_L_101 {R : Room} {s : State} {args : Array Value} (ht : ∀ w ∈ Tw, w.before args s = true) (hR : rm_X10_road.frames + 1 ≤ R.frames ∧ 8 + (4 + 11) + rm_X10_road.locals ≤ R.locals) : CallW R s args RL RX10 101 yX10_road cX10_road 4 (some .int) (ws_of yX10_road cX10_road 4 (some .int)) rm_X10_road 0 0 3 := cw_V 3 ht k_1504 k_1505 k_1506 k_73 k_1507 (by decide +kernel) rfl rfl hR
theorem cw_L_102 {R : Room} {s : State} {args : Array Value} (ht : ∀ w ∈ Tw, w.before args s = true) (hR : rm_X9_far.frames + 1 ≤ R.frames ∧ 8 + (3 + 11) + rm_X9_far.locals ≤ R.locals) : CallW R s args RL RX9 102 yX9_far cX9_far 3 (some .int) (ws_of yX9_far cX9_far 3 (some .int)) rm_X9_far 0 0 2 := cw_V 2 ht k_847 k_848 k_849 k_63 k_850 (by decide +kernel) rfl rfl hR
theorem cw_L_105 {R : Room} {s : State} {args : Array Value} (ht : ∀ w ∈ Tw, w.before args s = true) (hR : rm_X10_far.frames + 1 ≤ R.frames ∧ 8 + (3 + 11) + rm_X10_far.locals ≤ R.locals) : CallW R s args RL RX10 105 yX10_far cX10_far 3 (some .int) (ws_of yX10_far cX10_far 3 (some .int)) rm_X10_far 0 0 2 := cw_V 2 ht k_1512 k_1513 k_1514 k_73 k_1515 (by decide +kernel) rfl rfl hR
theorem cw_L_106 {R : Room} {s : State} {args : Array Value} (ht : ∀ w ∈ Tw, w.before args s = true) (hR : rm_X9_diary.frames + 1 ≤ R.frames ∧ 8 + (3 + 11) + rm_X9_diary.locals ≤ R.locals) : CallW R s args RL RX9 106 yX9_diary cX9_diary 3 (some .int) (ws_of yX9_diary cX9_diary 3 (some .int)) rm_X9_diary 0 0 2 := cw_V 2 ht k_862 k_863 k_864 k_63 k_865 (by decide +kernel) rfl rfl hR
theorem cw_L_109 {R : Room} {s : State} {args : Array Value} (ht : ∀ w ∈ Tw, w.before args s = true) (hR : rm_X10_diary.frames + 1 ≤ R.frames ∧ 8 + (3 + 11) + rm_X10_diary.locals ≤ R.locals) : CallW R s args RL RX10 109 yX10_diary cX10_diary 3 (some .int) (ws_of yX10_diary cX10_diary 3 (some .int)) rm_X10_diary 0 0 2 := cw_V 2 ht k_1524 k_1525 k_1526 k_73 k_1527 (by decide +kernel) rfl rfl hR
theorem cw_L_110 {R : Room} {s : State} {args : Array Value} (ht : ∀ w ∈ Tw, w.before args s = true) (hR : rm_X9_could.frames + 1 ≤ R.frames ∧ 8 + (4 + 11) + rm_X9_could.locals ≤ R.locals) : CallW R s args RL RX9 110 yX9_could cX9_could 4 (some .int) (ws_of yX9_could cX9_could 4 (some .int)) rm_X9_could 0 0 3 := cw_V 3 ht k_872 k_873 k_874 k_63 k_875 (by decide +kernel) rfl rfl hR
theorem cw_L_113 {R : Room} {s : State} {args : Array Value} (ht : ∀ w ∈ Tw, w.before args s = true) (hR : rm_X10_could.frames + 1 ≤ R.frames ∧ 8 + (9 + 11) + rm_X10_could.locals ≤ R.locals) : CallW R s args RL RX10 113 yX10_could cX10_could 9 (some .int) (ws_of yX10_could cX10_could 9 (some .int)) rm_X10_could 0 0 3 := cw_V 3 ht k_1532 k_1533 k_1534 k_73 k_1535 (by decide +kernel) rfl rfl hR
theorem cw_L_114 {R : Room} {s : State} {args : Array Value} (ht : ∀ w ∈ Tw, w.before args s = true) (hR : rm_X9_leaner.frames + 1 ≤ R.frames ∧ 8 + (5 + 11) + rm_X9_leaner.locals ≤ R.locals) : CallW R s args RL RX9 114 yX9_leaner cX9_leaner 5 (some .int) (ws_of yX9_leaner cX9_leaner 5 (some .int)) rm_X9_leaner 0 0 3 := cw_V 3 ht k_885 k_886 k_887 k_63 k_888 (by decide +kernel) rfl rfl hR
theorem cw_L_117 {R : Room} {s : State} {args : Array Value} (ht : ∀ w ∈ Tw, w.before args s = true) (hR : rm_X10_leaner.frames + 1 ≤ R.frames ∧ 8 + (5 + 11) + rm_X10_leaner.locals ≤ R.locals) : CallW R s args RL RX10 117 yX10_leaner cX10_leaner 5 (some .int) (ws_of yX10_leaner cX10_leaner 5 (some .int)) rm_X10_leaner 0 0 3 := cw_V 3 ht k_1541 k_1542 k_1543 k_73 k_1544 (by decide +kernel) rfl rfl hR
theorem cw_L_118 {R : Room} {s : State} {args : Array Value} (ht : ∀ w ∈ Tw, w.before args s = true) (hR : rm_X9_falls.frames + 1 ≤ R.frames ∧ 8 + (2 + 11) + rm_X9_falls.locals ≤ R.locals) : CallW R s args RL RX9 118 yX9_falls cX9_falls 2 (some .int) (ws_of yX9_falls cX9_falls 2 (some .int)) rm_X9_falls 0 0 1 := cw_V 1 ht k_897 k_898 k_899 k_63 k_900 (by decide +kernel) rfl rfl hR
theorem cw_L_121 {R : Room} {s : State} {args : Array Value} (ht : ∀ w ∈ Tw, w.before args s = true) (hR : rm_X10_falls.frames + 1 ≤ R.frames ∧ 8 + (2 + 11) + rm_X10_falls.locals ≤ R.locals) : CallW R s args RL RX10 121 yX10_falls cX10_falls 2 (some .int) (ws_of yX10_falls cX10_falls 2 (some .int)) rm_X10_falls 0 0 1 := cw_V 1 ht k_1546 k_1547 k_1548 k_73 k_1549 (by decide +kernel) rfl rfl hR
theorem cw_L_122 {R : Room} {s : State} {args : Array Value} (ht : ∀ w ∈ Tw, w.before args s = true) (hR : rm_X9_left.frames + 1 ≤ R.frames ∧ 8 + (2 + 11) + rm_X9_left.locals ≤ R.locals) : CallW R s args RL RX9 122 yX9_left cX9_left 2 (some .int) (ws_of yX9_left cX9_left 2 (some .int)) rm_X9_left 0 0 1 := cw_V 1 ht k_911 k_912 k_913 k_63 k_914 (by decide +kernel) rfl rfl hR
theorem cw_L_125 {R : Room} {s : State} {args : Array Value} (ht : ∀ w ∈ Tw, w.before args s = true) (hR : rm_X10_left.frames + 1 ≤ R.frames ∧ 8 + (2 + 11) + rm_X10_left.locals ≤ R.locals) : CallW R s args RL RX10 125 yX10_left cX10_left 2 (some .int) (ws_of yX10_left cX10_left 2 (some .int)) rm_X10_left 0 0 1 := cw_V 1 ht k_1558 k_1559 k_1560 k_73 k_1561 (by decide +kernel) rfl rfl hR
theorem cw_L_126 {R : Room} {s : State} {args : Array Value} (ht : ∀ w ∈ Tw, w.before args s = true) (hR : rm_X9_pillar.frames + 1 ≤ R.frames ∧ 8 + (5 + 11) + rm_X9_pillar.locals ≤ R.locals) : CallW R s args RL RX9 126 yX9_pillar cX9_pillar 5 (some .int) (ws_of yX9_pillar cX9_pillar 5 (some .int)) rm_X9_pillar 0 0 0 := cw_V 0 ht k_915 k_916 k_917 k_63 k_918 (by decide +kernel) rfl rfl hR
theorem cw_L_129 {R : Room} {s : State} {args : Array Value} (ht : ∀ w ∈ Tw, w.before args s = true) (hR : rm_X10_pillar.frames + 1 ≤ R.frames ∧ 8 + (3 + 11) + rm_X10_pillar.locals ≤ R.locals) : CallW R s args RL RX10 129 yX10_pillar cX10_pillar 3 (some .int) (ws_of yX10_pillar cX10_pillar 3 (some .int)) rm_X10_pillar 0 0 0 := cw_V 0 ht k_1562 k_1563 k_1564 k_73 k_1565 (by decide +kernel) rfl rfl hR
theorem cw_L_130 {R : Room} {s : State} {args : Array Value} (ht : ∀ w ∈ Tw, w.before args s = true) (hR : rm_X9_source.frames + 1 ≤ R.frames ∧ 8 + (2 + 11) + rm_X9_source.locals ≤ R.locals) : CallW R s args RL RX9 130 yX9_source cX9_source 2 (some .int) (ws_of yX9_source cX9_source 2 (some .int)) rm_X9_source 0 0 1 := cw_V 1 ht k_920 k_921 k_922 k_63 k_923 (by decide +kernel) rfl rfl hR
theorem cw_L_133 {R : Room} {s : State} {args : Array Value} (ht : ∀ w ∈ Tw, w.before args s = true) (hR : rm_X10_source.frames + 1 ≤ R.frames ∧ 8 + (2 + 11) + rm_X10_source.locals ≤ R.locals) : CallW R s args RL RX10 133 yX10_source cX10_source 2 (some .int) (ws_of yX10_source cX10_source 2 (some .int)) rm_X10_source 0 0 1 := cw_V 1 ht k_1566 k_1567 k_1568 k_73 k_1569 (by decide +kernel) rfl rfl hR
theorem cw_L_134 {R : Room} {s : State} {args : Array Value} (ht : ∀ w ∈ Tw, w.before args s = true) (hR : rm_X9_next.frames + 1 ≤ R.frames ∧ 8 + (2 + 11) + rm_X9_next.locals ≤ R.locals) : CallW R s args RL RX9 134 yX9_next cX9_next 2 (some .int) (ws_of yX9_next cX9_next 2 (some .int)) rm_X9_next 0 0 1 := cw_V 1 ht k_928 k_929 k_930 k_63 k_931 (by decide +kernel) rfl rfl hR
theorem cw_L_137 {R : Room} {s : State} {args : Array Value} (ht : ∀ w ∈ Tw, w.before args s = true) (hR : rm_X10_next.frames + 1 ≤ R.frames ∧ 8 + (8 + 11) + rm_X10_next.locals ≤ R.locals) : CallW R s args RL RX10 137 yX10_next cX10_next 8 (some .int) (ws_of yX10_next cX10_next 8 (some .int)) rm_X10_next 0 0 1 := cw_V 1 ht k_1571 k_1572 k_1573 k_73 k_1574 (by decide +kernel) rfl rfl hR
theorem cw_L_138 {R : Room} {s : State} {args : Array Value} (ht : ∀ w ∈ Tw, w.before args s = true) (hR : rm_X9_heard.frames + 1 ≤ R.frames ∧ 8 + (4 + 11) + rm_X9_heard.locals ≤ R.locals) : CallW R s args RL RX9 138 yX9_heard cX9_heard 4 (some .int) (ws_of yX9_heard cX9_heard 4 (some .int)) rm_X9_heard 0 0 3 := cw_V 3 ht k_946 k_947 k_948 k_63 k_949 (by decide +kernel) rfl rfl hR
theorem cw_L_141 {R : Room} {s : State} {args : Array Value} (ht : ∀ w ∈ Tw, w.before args s = true) (hR : rm_X10_heard.frames + 1 ≤ R.frames ∧ 8 + (4 + 11) + rm_X10_heard.locals ≤ R.locals) : CallW R s args RL RX10 141 yX10_heard cX10_heard 4 (some .int) (ws_of yX10_heard cX10_heard 4 (some .int)) rm_X10_heard 0 0 3 := cw_V 3 ht k_1580 k_1581 k_1582 k_73 k_1583 (by decide +kernel) rfl rfl hR
theorem cw_L_142 {R : Room} {s : State} {args : Array Value} (ht : ∀ w ∈ Tw, w.before args s = true) (hR : rm_X9_seed.frames + 1 ≤ R.frames ∧ 8 + (3 + 11) + rm_X9_seed.locals ≤ R.locals) : CallW R s args RL RX9 142 yX9_seed cX9_seed 3 (some .int) (ws_of yX9_seed cX9_seed 3 (some .int)) rm_X9_seed 0 0 1 := cw_V 1 ht k_951 k_952 k_953 k_63 k_954 (by decide +kernel) rfl rfl hR
theorem cw_L_145 {R : Room} {s : State} {args : Array Value} (ht : ∀ w ∈ Tw, w.before args s = true) (hR : rm_X10_seed.frames + 1 ≤ R.frames ∧ 8 + (2 + 11) + rm_X10_seed.locals ≤ R.locals) : CallW R s args RL RX10 145 yX10_seed cX10_seed 2 (some .int) (ws_of yX10_seed cX10_seed 2 (some .int)) rm_X10_seed 0 0 1 := cw_V 1 ht k_1585 k_1586 k_1587 k_73 k_1588 (by decide +kernel) rfl rfl hR
theorem cw_L_146 {R : Room} {s : State} {args : Array Value} (ht : ∀ w ∈ Tw, w.before args s = true) (hR : rm_X9_share.frames + 1 ≤ R.frames ∧ 8 + (9 + 11) + rm_X9_share.locals ≤ R.locals) : CallW R s args RL RX9 146 yX9_share cX9_share 9 (some .int) (ws_of yX9_share cX9_share 9 (some .int)) rm_X9_share 0 0 4 := cw_V 4 ht k_955 k_956 k_957 k_63 k_958 (by decide +kernel) rfl rfl hR
theorem cw_L_150 {R : Room} {s : State} {args : Array Value} (ht : ∀ w ∈ Tw, w.before args s = true) (hR : rm_X10_share.frames + 1 ≤ R.frames ∧ 8 + (15 + 11) + rm_X10_share.locals ≤ R.locals) : CallW R s args RL RX10 150 yX10_share cX10_share 15 (some .int) (ws_of yX10_share cX10_share 15 (some .int)) rm_X10_share 0 0 4 := cw_V 4 ht k_1589 k_1590 k_1591 k_73 k_1592 (by decide +kernel) rfl rfl hR
theorem cw_L_151 {R : Room} {s : State} {args : Array Value} (ht : ∀ w ∈ Tw, w.before args s = true) (hR : rm_X9_sheet.frames + 1 ≤ R.frames ∧ 8 + (4 + 11) + rm_X9_sheet.locals ≤ R.locals) : CallW R s args RL RX9 151 yX9_sheet cX9_sheet 4 (some .int) (ws_of yX9_sheet cX9_sheet 4 (some .int)) rm_X9_sheet 0 0 3 := cw_V 3 ht k_972 k_973 k_974 k_63 k_975 (by decide +kernel) rfl rfl hR
theorem cw_L_154 {R : Room} {s : State} {args : Array Value} (ht : ∀ w ∈ Tw, w.before args s = true) (hR : rm_X10_sheet.frames + 1 ≤ R.frames ∧ 8 + (5 + 11) + rm_X10_sheet.locals ≤ R.locals) : CallW R s args RL RX10 154 yX10_sheet cX10_sheet 5 (some .int) (ws_of yX10_sheet cX10_sheet 5 (some .int)) rm_X10_sheet 0 0 3 := cw_V 3 ht k_1599 k_1600 k_1601 k_73 k_1602 (by decide +kernel) rfl rfl hR
theorem cw_L_155 {R : Room} {s : State} {args : Array Value} (ht : ∀ w ∈ Tw, w.before args s = true) (hR : rm_X9_mark.frames + 1 ≤ R.frames ∧ 8 + (5 + 11) + rm_X9_mark.locals ≤ R.locals) : CallW R s args RL RX9 155 yX9_mark cX9_mark 5 (some .int) (ws_of yX9_mark cX9_mark 5 (some .int)) rm_X9_mark 0 0 3 := cw_V 3 ht k_984 k_985 k_986 k_63 k_987 (by decide +kernel) rfl rfl hR
theorem cw_L_158 {R : Room} {s : State} {args : Array Value} (ht : ∀ w ∈ Tw, w.before args s = true) (hR : rm_X10_mark.frames + 1 ≤ R.frames ∧ 8 + (4 + 11) + rm_X10_mark.locals ≤ R.locals) : CallW R s args RL RX10 158 yX10_mark cX10_mark 4 (some .int) (ws_of yX10_mark cX10_mark 4 (some .int)) rm_X10_mark 0 0 3 := cw_V 3 ht k_1608 k_1609 k_1610 k_73 k_1611 (by decide +kernel) rfl rfl hR
theorem cw_L_159 {R : Room} {s : State} {args : Array Value} (ht : ∀ w ∈ Tw, w.before args s = true) (hR : rm_X9_print.frames + 1 ≤ R.frames ∧ 8 + (7 + 11) + rm_X9_print.locals ≤ R.locals) : CallW R s args RL RX9 159 yX9_print cX9_print 7 (some .int) (ws_of yX9_print cX9_print 7 (some .int)) rm_X9_print 0 0 3 := cw_V 3 ht k_996 k_997 k_998 k_63 k_999 (by decide +kernel) rfl rfl hR
theorem cw_L_162 {R : Room} {s : State} {args : Array Value} (ht : ∀ w ∈ Tw, w.before args s = true) (hR : rm_X10_print.frames + 1 ≤ R.frames ∧ 8 + (7 + 11) + rm_X10_print.locals ≤ R.locals) : CallW R s args RL RX10 162 yX10_print cX10_print 7 (some .int) (ws_of yX10_print cX10_print 7 (some .int)) rm_X10_print 0 0 3 := cw_V 3 ht k_1616 k_1617 k_1618 k_73 k_1619 (by decide +kernel) rfl rfl hR
theorem cw_L_163 {R : Room} {s : State} {args : Array Value} (ht : ∀ w ∈ Tw, w.before args s = true) (hR : rm_X9_copy.frames + 1 ≤ R.frames ∧ 8 + (8 + 11) + rm_X9_copy.locals ≤ R.locals) : CallW R s args RL RX9 163 yX9_copy cX9_copy 8 (some .int) (ws_of yX9_copy cX9_copy 8 (some .int)) rm_X9_copy 0 0 5 := cw_V 5 ht k_1005 k_1006 k_1007 k_63 k_1008 (by decide +kernel) rfl rfl hR
theorem cw_L_166 {R : Room} {s : State} {args : Array Value} (ht : ∀ w ∈ Tw, w.before args s = true) (hR : rm_X10_copy.frames + 1 ≤ R.frames ∧ 8 + (7 + 11) + rm_X10_copy.locals ≤ R.locals) : CallW R s args RL RX10 166 yX10_copy cX10_copy 7 (some .int) (ws_of yX10_copy cX10_copy 7 (some .int)) rm_X10_copy 0 0 5 := cw_V 5 ht k_1620 k_1621 k_1622 k_73 k_1623 (by decide +kernel) rfl rfl hR
theorem cw_L_167 {R : Room} {s : State} {args : Array Value} (ht : ∀ w ∈ Tw, w.before args s = true) (hR : rm_X9_lay.frames + 1 ≤ R.frames ∧ 8 + (6 + 11) + rm_X9_lay.locals ≤ R.locals) : CallW R s args RL RX9 167 yX9_lay cX9_lay 6 (some .int) (ws_of yX9_lay cX9_lay 6 (some .int)) rm_X9_lay 0 0 3 := cw_V 3 ht k_1014 k_1015 k_1016 k_63 k_1017 (by decide +kernel) rfl rfl hR
theorem cw_L_170 {R : Room} {s : State} {args : Array Value} (ht : ∀ w ∈ Tw, w.before args s = true) (hR : rm_X10_lay.frames + 1 ≤ R.frames ∧ 8 + (7 + 11) + rm_X10_lay.locals ≤ R.locals) : CallW R s args RL RX10 170 yX10_lay cX10_lay 7 (some .int) (ws_of yX10_lay cX10_lay 7 (some .int)) rm_X10_lay 0 0 3 := cw_V 3 ht k_1624 k_1625 k_1626 k_73 k_1627 (by decide +kernel) rfl rfl hR
theorem cw_L_171 {R : Room} {s : State} {args : Array Value} (ht : ∀ w ∈ Tw, w.before args s = true) (hR : rm_X9_ask.frames + 1 ≤ R.frames ∧ 8 + (4 + 11) + rm_X9_ask.locals ≤ R.locals) : CallW R s args RL RX9 171 yX9_ask cX9_ask 4 (some .int) (ws_of yX9_ask cX9_ask 4 (some .int)) rm_X9_ask 0 0 2 := cw_V 2 ht k_1030 k_1031 k_1032 k_63 k_1033 (by decide +kernel) rfl rfl hR
theorem cw_L_174 {R : Room} {s : State} {args : Array Value} (ht : ∀ w ∈ Tw, w.before args s = true) (hR : rm_X10_ask.frames + 1 ≤ R.frames ∧ 8 + (3 + 11) + rm_X10_ask.locals ≤ R.locals) : CallW R s args RL RX10 174 yX10_ask cX10_ask 3 (some .int) (ws_of yX10_ask cX10_ask 3 (some .int)) rm_X10_ask 0 0 2 := cw_V 2 ht k_1631 k_1632 k_1633 k_73 k_1634 (by decide +kernel) rfl rfl hR
theorem cw_L_175 {R : Room} {s : State} {args : Array Value} (ht : ∀ w ∈ Tw, w.before args s = true) (hR : rm_X9_item.frames + 1 ≤ R.frames ∧ 8 + (4 + 11) + rm_X9_item.locals ≤ R.locals) : CallW R s args RL RX9 175 yX9_item cX9_item 4 (some .int) (ws_of yX9_item cX9_item 4 (some .int)) rm_X9_item 0 0 2 := cw_V 2 ht k_1034 k_1035 k_1036 k_63 k_1037 (by decide +kernel) rfl rfl hR
theorem cw_L_178 {R : Room} {s : State} {args : Array Value} (ht : ∀ w ∈ Tw, w.before args s = true) (hR : rm_X10_item.frames + 1 ≤ R.frames ∧ 8 + (4 + 11) + rm_X10_item.locals ≤ R.locals) : CallW R s args RL RX10 178 yX10_item cX10_item 4 (some .int) (ws_of yX10_item cX10_item 4 (some .int)) rm_X10_item 0 0 2 := cw_V 2 ht k_1635 k_1636 k_1637 k_73 k_1638 (by decide +kernel) rfl rfl hR
theorem cw_L_179 {R : Room} {s : State} {args : Array Value} (ht : ∀ w ∈ Tw, w.before args s = true) (hR : rm_X9_rest.frames + 1 ≤ R.frames ∧ 8 + (4 + 11) + rm_X9_rest.locals ≤ R.locals) : CallW R s args RL RX9 179 yX9_rest cX9_rest 4 (some .int) (ws_of yX9_rest cX9_rest 4 (some .int)) rm_X9_rest 0 0 2 := cw_V 2 ht k_1038 k_1039 k_1040 k_63 k_1041 (by decide +kernel) rfl rfl hR
theorem cw_L_182 {R : Room} {s : State} {args : Array Value} (ht : ∀ w ∈ Tw, w.before args s = true) (hR : rm_X10_rest.frames + 1 ≤ R.frames ∧ 8 + (3 + 11) + rm_X10_rest.locals ≤ R.locals) : CallW R s args RL RX10 182 yX10_rest cX10_rest 3 (some .int) (ws_of yX10_rest cX10_rest 3 (some .int)) rm_X10_rest 0 0 2 := cw_V 2 ht k_1639 k_1640 k_1641 k_73 k_1642 (by decide +kernel) rfl rfl hR
theorem cw_L_183 {R : Room} {s : State} {args : Array Value} (ht : ∀ w ∈ Tw, w.before args s = true) (hR : rm_X9_tell.frames + 1 ≤ R.frames ∧ 8 + (2 + 11) + rm_X9_tell.locals ≤ R.locals) : CallW R s args RL RX9 183 yX9_tell cX9_tell 2 (some .int) (ws_of yX9_tell cX9_tell 2 (some .int)) rm_X9_tell 0 0 1 := cw_V 1 ht k_1042 k_1043 k_1044 k_63 k_1045 (by decide +kernel) rfl rfl hR
theorem cw_L_186 {R : Room} {s : State} {args : Array Value} (ht : ∀ w ∈ Tw, w.before args s = true) (hR : rm_X10_tell.frames + 1 ≤ R.frames ∧ 8 + (2 + 11) + rm_X10_tell.locals ≤ R.locals) : CallW R s args RL RX10 186 yX10_tell cX10_tell 2 (some .int) (ws_of yX10_tell cX10_tell 2 (some .int)) rm_X10_tell 0 0 1 := cw_V 1 ht k_1643 k_1644 k_1645 k_73 k_1646 (by decide +kernel) rfl rfl hR
theorem cw_L_187 {R : Room} {s : State} {args : Array Value} (ht : ∀ w ∈ Tw, w.before args s = true) (hR : rm_X9_check.frames + 1 ≤ R.frames ∧ 8 + (6 + 11) + rm_X9_check.locals ≤ R.locals) : CallW R s args RL RX9 187 yX9_check cX9_check 6 (some .int) (ws_of yX9_check cX9_check 6 (some .int)) rm_X9_check 0 0 2 := cw_V 2 ht k_1046 k_1047 k_1048 k_63 k_1049 (by decide +kernel) rfl rfl hR
theorem cw_L_190 {R : Room} {s : State} {args : Array Value} (ht : ∀ w ∈ Tw, w.before args s = true) (hR : rm_X10_check.frames + 1 ≤ R.frames ∧ 8 + (6 + 11) + rm_X10_check.locals ≤ R.locals) : CallW R s args RL RX10 190 yX10_check cX10_check 6 (some .int) (ws_of yX10_check cX10_check 6 (some .int)) rm_X10_check 0 0 2 := cw_V 2 ht k_1647 k_1648 k_1649 k_73 k_1650 (by decide +kernel) rfl rfl hR
theorem cw_L_191 {R : Room} {s : State} {args : Array Value} (ht : ∀ w ∈ Tw, w.before args s = true) (hR : rm_X9_keep.frames + 1 ≤ R.frames ∧ 8 + (1 + 11) + rm_X9_keep.locals ≤ R.locals) : CallW R s args RL RX9 191 yX9_keep cX9_keep 1 (some .int) (ws_of yX9_keep cX9_keep 1 (some .int)) rm_X9_keep 0 0 0 := cw_V 0 ht k_1050 k_1051 k_1052 k_63 k_1053 (by decide +kernel) rfl rfl hR
theorem cw_L_194 {R : Room} {s : State} {args : Array Value} (ht : ∀ w ∈ Tw, w.before args s = true) (hR : rm_X10_keep.frames + 1 ≤ R.frames ∧ 8 + (1 + 11) + rm_X10_keep.locals ≤ R.locals) : CallW R s args RL RX10 194 yX10_keep cX10_keep 1 (some .int) (ws_of yX10_keep cX10_keep 1 (some .int)) rm_X10_keep 0 0 0 := cw_V 0 ht k_1655 k_1656 k_1657 k_73 k_1658 (by decide +kernel) rfl rfl hR
theorem cw_L_195 {R : Room} {s : State} {args : Array Value} (ht : ∀ w ∈ Tw, w.before args s = true) (hR : rm_X9_back.frames + 1 ≤ R.frames ∧ 8 + (1 + 11) + rm_X9_back.locals ≤ R.locals) : CallW R s args RL RX9 195 yX9_back cX9_back 1 (some .int) (ws_of yX9_back cX9_back 1 (some .int)) rm_X9_back 0 0 0 := cw_V 0 ht k_1083 k_1084 k_1085 k_63 k_1086 (by decide +kernel) rfl rfl hR
theorem cw_L_198 {R : Room} {s : State} {args : Array Value} (ht : ∀ w ∈ Tw, w.before args s = true) (hR : rm_X10_back.frames + 1 ≤ R.frames ∧ 8 + (1 + 11) + rm_X10_back.locals ≤ R.locals) : CallW R s args RL RX10 198 yX10_back cX10_back 1 (some .int) (ws_of yX10_back cX10_back 1 (some .int)) rm_X10_back 0 0 0 := cw_V 0 ht k_1659 k_1660 k_1661 k_73 k_1662 (by decide +kernel) rfl rfl hR
theorem cw_L_199 {R : Room} {s : State} {args : Array Value} (ht : ∀ w ∈ Tw, w.before args s = true) (hR : rm_X9_count.frames + 1 ≤ R.frames ∧ 8 + (2 + 11) + rm_X9_count.locals ≤ R.locals) : CallW R s args RL RX9 199 yX9_count cX9_count 2 (some .int) (ws_of yX9_count cX9_count 2 (some .int)) rm_X9_count 0 0 1 := cw_V 1 ht k_1087 k_1088 k_1089 k_63 k_1090 (by decide +kernel) rfl rfl hR
theorem cw_L_202 {R : Room} {s : State} {args : Array Value} (ht : ∀ w ∈ Tw, w.before args s = true) (hR : rm_X10_count.frames + 1 ≤ R.frames ∧ 8 + (5 + 11) + rm_X10_count.locals ≤ R.locals) : CallW R s args RL RX10 202 yX10_count cX10_count 5 (some .int) (ws_of yX10_count cX10_count 5 (some .int)) rm_X10_count 0 0 1 := cw_V 1 ht k_1663 k_1664 k_1665 k_73 k_1666 (by decide +kernel) rfl rfl hR
set_option maxHeartbeats 4000000 in
set_option maxRecDepth 100000 in
theorem lc_0 {p : Program} {l : Launch} {e : Env} {s : State} {m : MethodId} {below : List Frame} {meth : Method} {c : Code} {Q : State → Prop} {b L : Nat} {xs : Nat → Int32} {D : va_G} {K : Ks} {ad1 ad2 : Nat → Nat} {tC tA tP : Nat} {kK kV : Nat → Nat} {I : Mem → Mem → Prop} (S : CallFix p m c cL_law 4 s #[Value.ref b] Tw RL) (hK : va_K D classes (gty K) s) (hE : E1 (fun q : Nat => s.heap.size ≤ q) tC tA tP kK kV s) (hT : Two s ad1 ad2) (hX : va_X b L xs s s.heap) (hbl : b < s.heap.size) (hL : L ≤ 3072) {k : Nat} (hk : k + 6 ≤ L) (op : ∀ (x1 : Int32) M1 M2, I M1 M2 → ∃ r M1' M2', f_X9_table 0 x1 M1 = some (r, M1') ∧ f_X10_table 0 x1 M2 = some (r, M2') ∧ I M1' M2') (next : ∀ (M1 M2 : Mem) (H : Heap) (locs : List Loc) (ls : Array Slot), I M1 M2 → va_P D classes (gws K G1 ad1 M1) H → va_P D classes (gws K G2 ad2 M2) H → va_S (fun q : Nat => s.heap.size ≤ q) s.heap H locs → lv_has ls 4 [(0, .ref b), (1, .ref (ad1 0)), (2, .ref (ad2 0)), (3, .int (nI k))] → W p l e room_1 s m #[Value.ref b] below meth c H locs 112 15807 Q (F0 m 1670 ls [])) {M1 M2 : Mem} {H : Heap} {locs : List Loc} {ls : Array Slot} (hI : I M1 M2) (hP1 : va_P D classes (gws K G1 ad1 M1) H) (hP2 : va_P D classes (gws K G2 ad2 M2) H) (hS : va_S (fun q : Nat => s.heap.size ≤ q) s.heap H locs) (hl : lv_has ls 4 [(0, .ref b), (1, .ref (ad1 0)), (2, .ref (ad2 0)), (3, .int (nI k))]) : W p l e room_1 s m #[Value.ref b] below meth c H locs 112 15807 Q (F0 m 232 ls []) := by
  have hx := S.1
  have hb := S.2.1
  have ht := S.2.2.2.2
  have hbA : ¬ (fun q : Nat => s.heap.size ≤ q) b := Nat.not_le.mpr hbl
  obtain ⟨r, N1, N2, e1, e2, hI2⟩ := op (xs (nI k + 1).toNatClampNeg) M1 M2 hI
  refine lv_aload_n hx hb dL_law_232 rfl (lv_at hl 1 rfl) ?_
  refine lv_aload_n hx hb dL_law_233 rfl (lv_at hl 0 rfl) ?_
  refine lv_iload_n hx hb dL_law_234 rfl (lv_at hl 3 rfl) ?_
  refine lv_iconst (v := 1) hx hb dL_law_235 (by decide) ?_
  refine lv_iadd hx hb dL_law_236 ?_
  refine va_sld hx hb hX hbl hbA hS (sv1 hk hL) dL_law_237 ?_
  refine q_call1 (As := [.int (xs (nI k + 1).toNatClampNeg)]) (rest := []) S hK hE hT hP1 hP2 hS (cw_L_13 ht ⟨Nat.le_of_ble_eq_true rfl, Nat.le_of_ble_eq_true rfl⟩) rfl hl.1 rfl (Nat.le_of_ble_eq_true rfl) dL_law_238 ⟨Nat.le_of_ble_eq_true rfl, Nat.le_of_ble_eq_true rfl⟩ (c_X9_table hT.g1 rfl e1) (fun H locs hP1 hP2 hS => ?_)
  refine lv_aload_n hx hb dL_law_241 rfl (lv_at hl 2 rfl) ?_
  refine lv_aload_n hx hb dL_law_242 rfl (lv_at hl 0 rfl) ?_
  refine lv_iload_n hx hb dL_law_243 rfl (lv_at hl 3 rfl) ?_
  refine lv_iconst (v := 1) hx hb dL_law_244 (by decide) ?_
  refine lv_iadd hx hb dL_law_245 ?_
  refine va_sld hx hb hX hbl hbA hS (sv1 hk hL) dL_law_246 ?_
  refine q_call2 (As := [.int (xs (nI k + 1).toNatClampNeg)]) (rest := [.int r]) S hK hT hP1 hP2 hS (cw_L_17 ht ⟨Nat.le_of_ble_eq_true rfl, Nat.le_of_ble_eq_true rfl⟩) rfl hl.1 rfl (Nat.le_of_ble_eq_true rfl) dL_law_247 ⟨Nat.le_of_ble_eq_true rfl, Nat.le_of_ble_eq_true rfl⟩ (c_X10_table hT.g2 rfl e2) (fun H locs hP1 hP2 hS => ?_)
  refine lv_icmp_eq (tgt := 1670) hx hb dL_law_250 (by decide) (fun _ => ?_) (fun z => absurd rfl z)
  exact next N1 N2 H locs ls hI2 hP1 hP2 hS hl
set_option maxHeartbeats 4000000 in
set_option maxRecDepth 100000 in
theorem lc_1 {p : Program} {l : Launch} {e : Env} {s : State} {m : MethodId} {below : List Frame} {meth : Method} {c : Code} {Q : State → Prop} {b L : Nat} {xs : Nat → Int32} {D : va_G} {K : Ks} {ad1 ad2 : Nat → Nat} {tC tA tP : Nat} {kK kV : Nat → Nat} {I : Mem → Mem → Prop} (S : CallFix p m c cL_law 4 s #[Value.ref b] Tw RL) (hK : va_K D classes (gty K) s) (hE : E1 (fun q : Nat => s.heap.size ≤ q) tC tA tP kK kV s) (hT : Two s ad1 ad2) (hX : va_X b L xs s s.heap) (hbl : b < s.heap.size) (hL : L ≤ 3072) {k : Nat} (hk : k + 6 ≤ L) (op : ∀ (x1 x2 x3 x4 x5 : Int32) M1 M2, I M1 M2 → ∃ r M1' M2', f_X9_figure 0 x1 x2 x3 x4 x5 M1 = some (r, M1') ∧ f_X10_figure 0 x1 x2 x3 x4 x5 M2 = some (r, M2') ∧ I M1' M2') (next : ∀ (M1 M2 : Mem) (H : Heap) (locs : List Loc) (ls : Array Slot), I M1 M2 → va_P D classes (gws K G1 ad1 M1) H → va_P D classes (gws K G2 ad2 M2) H → va_S (fun q : Nat => s.heap.size ≤ q) s.heap H locs → lv_has ls 4 [(0, .ref b), (1, .ref (ad1 0)), (2, .ref (ad2 0)), (3, .int (nI k))] → W p l e room_1 s m #[Value.ref b] below meth c H locs 112 15807 Q (F0 m 1670 ls [])) {M1 M2 : Mem} {H : Heap} {locs : List Loc} {ls : Array Slot} (hI : I M1 M2) (hP1 : va_P D classes (gws K G1 ad1 M1) H) (hP2 : va_P D classes (gws K G2 ad2 M2) H) (hS : va_S (fun q : Nat => s.heap.size ≤ q) s.heap H locs) (hl : lv_has ls 4 [(0, .ref b), (1, .ref (ad1 0)), (2, .ref (ad2 0)), (3, .int (nI k))]) : W p l e room_1 s m #[Value.ref b] below meth c H locs 112 15807 Q (F0 m 255 ls []) := by
  have hx := S.1
  have hb := S.2.1
  have ht := S.2.2.2.2
  have hbA : ¬ (fun q : Nat => s.heap.size ≤ q) b := Nat.not_le.mpr hbl
  obtain ⟨r, N1, N2, e1, e2, hI2⟩ := op (xs (nI k + 1).toNatClampNeg) (xs (nI k + 2).toNatClampNeg) (xs (nI k + 3).toNatClampNeg) (xs (nI k + 4).toNatClampNeg) (xs (nI k + 5).toNatClampNeg) M1 M2 hI
  refine lv_aload_n hx hb dL_law_255 rfl (lv_at hl 1 rfl) ?_
  refine lv_aload_n hx hb dL_law_256 rfl (lv_at hl 0 rfl) ?_
  refine lv_iload_n hx hb dL_law_257 rfl (lv_at hl 3 rfl) ?_
  refine lv_iconst (v := 1) hx hb dL_law_258 (by decide) ?_
  refine lv_iadd hx hb dL_law_259 ?_
  refine va_sld hx hb hX hbl hbA hS (sv1 hk hL) dL_law_260 ?_
  refine lv_aload_n hx hb dL_law_261 rfl (lv_at hl 0 rfl) ?_
  refine lv_iload_n hx hb dL_law_262 rfl (lv_at hl 3 rfl) ?_
  refine lv_iconst (v := 2) hx hb dL_law_263 (by decide) ?_
  refine lv_iadd hx hb dL_law_264 ?_
  refine va_sld hx hb hX hbl hbA hS (sv2 hk hL) dL_law_265 ?_
  refine lv_aload_n hx hb dL_law_266 rfl (lv_at hl 0 rfl) ?_
  refine lv_iload_n hx hb dL_law_267 rfl (lv_at hl 3 rfl) ?_
  refine lv_iconst (v := 3) hx hb dL_law_268 (by decide) ?_
  refine lv_iadd hx hb dL_law_269 ?_
  refine va_sld hx hb hX hbl hbA hS (sv3 hk hL) dL_law_270 ?_
  refine lv_aload_n hx hb dL_law_271 rfl (lv_at hl 0 rfl) ?_
  refine lv_iload_n hx hb dL_law_272 rfl (lv_at hl 3 rfl) ?_
  refine lv_iconst (v := 4) hx hb dL_law_273 (by decide) ?_
  refine lv_iadd hx hb dL_law_274 ?_
  refine va_sld hx hb hX hbl hbA hS (sv4 hk hL) dL_law_275 ?_
  refine lv_aload_n hx hb dL_law_276 rfl (lv_at hl 0 rfl) ?_
  refine lv_iload_n hx hb dL_law_277 rfl (lv_at hl 3 rfl) ?_
  refine lv_iconst (v := 5) hx hb dL_law_278 (by decide) ?_
  refine lv_iadd hx hb dL_law_279 ?_
  refine va_sld hx hb hX hbl hbA hS (sv5 hk hL) dL_law_280 ?_
  refine q_call1 (As := [.int (xs (nI k + 1).toNatClampNeg), .int (xs (nI k + 2).toNatClampNeg), .int (xs (nI k + 3).toNatClampNeg), .int (xs (nI k + 4).toNatClampNeg), .int (xs (nI k + 5).toNatClampNeg)]) (rest := []) S hK hE hT hP1 hP2 hS (cw_L_18 ht ⟨Nat.le_of_ble_eq_true rfl, Nat.le_of_ble_eq_true rfl⟩) rfl hl.1 rfl (Nat.le_of_ble_eq_true rfl) dL_law_281 ⟨Nat.le_of_ble_eq_true rfl, Nat.le_of_ble_eq_true rfl⟩ (c_X9_figure hT.g1 rfl e1) (fun H locs hP1 hP2 hS => ?_)
  refine lv_aload_n hx hb dL_law_284 rfl (lv_at hl 2 rfl) ?_
  refine lv_aload_n hx hb dL_law_285 rfl (lv_at hl 0 rfl) ?_
  refine lv_iload_n hx hb dL_law_286 rfl (lv_at hl 3 rfl) ?_
  refine lv_iconst (v := 1) hx hb dL_law_287 (by decide) ?_
  refine lv_iadd hx hb dL_law_288 ?_
  refine va_sld hx hb hX hbl hbA hS (sv1 hk hL) dL_law_289 ?_
  refine lv_aload_n hx hb dL_law_290 rfl (lv_at hl 0 rfl) ?_
  refine lv_iload_n hx hb dL_law_291 rfl (lv_at hl 3 rfl) ?_
  refine lv_iconst (v := 2) hx hb dL_law_292 (by decide) ?_
  refine lv_iadd hx hb dL_law_293 ?_
  refine va_sld hx hb hX hbl hbA hS (sv2 hk hL) dL_law_294 ?_
  refine lv_aload_n hx hb dL_law_295 rfl (lv_at hl 0 rfl) ?_
  refine lv_iload_n hx hb dL_law_296 rfl (lv_at hl 3 rfl) ?_
  refine lv_iconst (v := 3) hx hb dL_law_297 (by decide) ?_
  refine lv_iadd hx hb dL_law_298 ?_
  refine va_sld hx hb hX hbl hbA hS (sv3 hk hL) dL_law_299 ?_
  refine lv_aload_n hx hb dL_law_300 rfl (lv_at hl 0 rfl) ?_
  refine lv_iload_n hx hb dL_law_301 rfl (lv_at hl 3 rfl) ?_
  refine lv_iconst (v := 4) hx hb dL_law_302 (by decide) ?_
  refine lv_iadd hx hb dL_law_303 ?_
  refine va_sld hx hb hX hbl hbA hS (sv4 hk hL) dL_law_304 ?_
  refine lv_aload_n hx hb dL_law_305 rfl (lv_at hl 0 rfl) ?_
  refine lv_iload_n hx hb dL_law_306 rfl (lv_at hl 3 rfl) ?_
  refine lv_iconst (v := 5) hx hb dL_law_307 (by decide) ?_
  refine lv_iadd hx hb dL_law_308 ?_
  refine va_sld hx hb hX hbl hbA hS (sv5 hk hL) dL_law_309 ?_
  refine q_call2 (As := [.int (xs (nI k + 1).toNatClampNeg), .int (xs (nI k + 2).toNatClampNeg), .int (xs (nI k + 3).toNatClampNeg), .int (xs (nI k + 4).toNatClampNeg), .int (xs (nI k + 5).toNatClampNeg)]) (rest := [.int r]) S hK hT hP1 hP2 hS (cw_L_22 ht ⟨Nat.le_of_ble_eq_true rfl, Nat.le_of_ble_eq_true rfl⟩) rfl hl.1 rfl (Nat.le_of_ble_eq_true rfl) dL_law_310 ⟨Nat.le_of_ble_eq_true rfl, Nat.le_of_ble_eq_true rfl⟩ (c_X10_figure hT.g2 rfl e2) (fun H locs hP1 hP2 hS => ?_)
  refine lv_icmp_eq (tgt := 1670) hx hb dL_law_313 (by decide) (fun _ => ?_) (fun z => absurd rfl z)
  exact next N1 N2 H locs ls hI2 hP1 hP2 hS hl
set_option maxHeartbeats 4000000 in
set_option maxRecDepth 100000 in
theorem lc_2 {p : Program} {l : Launch} {e : Env} {s : State} {m : MethodId} {below : List Frame} {meth : Method} {c : Code} {Q : State → Prop} {b L : Nat} {xs : Nat → Int32} {D : va_G} {K : Ks} {ad1 ad2 : Nat → Nat} {tC tA tP : Nat} {kK kV : Nat → Nat} {I : Mem → Mem → Prop} (S : CallFix p m c cL_law 4 s #[Value.ref b] Tw RL) (hK : va_K D classes (gty K) s) (hE : E1 (fun q : Nat => s.heap.size ≤ q) tC tA tP kK kV s) (hT : Two s ad1 ad2) (hX : va_X b L xs s s.heap) (hbl : b < s.heap.size) (hL : L ≤ 3072) {k : Nat} (hk : k + 6 ≤ L) (op : ∀ (x1 x2 : Int32) M1 M2, I M1 M2 → ∃ r M1' M2', f_X9_told 0 x1 x2 M1 = some (r, M1') ∧ f_X10_told 0 x1 x2 M2 = some (r, M2') ∧ I M1' M2') (next : ∀ (M1 M2 : Mem) (H : Heap) (locs : List Loc) (ls : Array Slot), I M1 M2 → va_P D classes (gws K G1 ad1 M1) H → va_P D classes (gws K G2 ad2 M2) H → va_S (fun q : Nat => s.heap.size ≤ q) s.heap H locs → lv_has ls 4 [(0, .ref b), (1, .ref (ad1 0)), (2, .ref (ad2 0)), (3, .int (nI k))] → W p l e room_1 s m #[Value.ref b] below meth c H locs 112 15807 Q (F0 m 1670 ls [])) {M1 M2 : Mem} {H : Heap} {locs : List Loc} {ls : Array Slot} (hI : I M1 M2) (hP1 : va_P D classes (gws K G1 ad1 M1) H) (hP2 : va_P D classes (gws K G2 ad2 M2) H) (hS : va_S (fun q : Nat => s.heap.size ≤ q) s.heap H locs) (hl : lv_has ls 4 [(0, .ref b), (1, .ref (ad1 0)), (2, .ref (ad2 0)), (3, .int (nI k))]) : W p l e room_1 s m #[Value.ref b] below meth c H locs 112 15807 Q (F0 m 318 ls []) := by
  have hx := S.1
  have hb := S.2.1
  have ht := S.2.2.2.2
  have hbA : ¬ (fun q : Nat => s.heap.size ≤ q) b := Nat.not_le.mpr hbl
  obtain ⟨r, N1, N2, e1, e2, hI2⟩ := op (xs (nI k + 1).toNatClampNeg) (xs (nI k + 2).toNatClampNeg) M1 M2 hI
  refine lv_aload_n hx hb dL_law_318 rfl (lv_at hl 1 rfl) ?_
  refine lv_aload_n hx hb dL_law_319 rfl (lv_at hl 0 rfl) ?_
  refine lv_iload_n hx hb dL_law_320 rfl (lv_at hl 3 rfl) ?_
  refine lv_iconst (v := 1) hx hb dL_law_321 (by decide) ?_
  refine lv_iadd hx hb dL_law_322 ?_
  refine va_sld hx hb hX hbl hbA hS (sv1 hk hL) dL_law_323 ?_
  refine lv_aload_n hx hb dL_law_324 rfl (lv_at hl 0 rfl) ?_
  refine lv_iload_n hx hb dL_law_325 rfl (lv_at hl 3 rfl) ?_
  refine lv_iconst (v := 2) hx hb dL_law_326 (by decide) ?_
  refine lv_iadd hx hb dL_law_327 ?_
  refine va_sld hx hb hX hbl hbA hS (sv2 hk hL) dL_law_328 ?_
  refine q_call1 (As := [.int (xs (nI k + 1).toNatClampNeg), .int (xs (nI k + 2).toNatClampNeg)]) (rest := []) S hK hE hT hP1 hP2 hS (cw_L_23 ht ⟨Nat.le_of_ble_eq_true rfl, Nat.le_of_ble_eq_true rfl⟩) rfl hl.1 rfl (Nat.le_of_ble_eq_true rfl) dL_law_329 ⟨Nat.le_of_ble_eq_true rfl, Nat.le_of_ble_eq_true rfl⟩ (c_X9_told hT.g1 rfl e1) (fun H locs hP1 hP2 hS => ?_)
  refine lv_aload_n hx hb dL_law_332 rfl (lv_at hl 2 rfl) ?_
  refine lv_aload_n hx hb dL_law_333 rfl (lv_at hl 0 rfl) ?_
  refine lv_iload_n hx hb dL_law_334 rfl (lv_at hl 3 rfl) ?_
  refine lv_iconst (v := 1) hx hb dL_law_335 (by decide) ?_
  refine lv_iadd hx hb dL_law_336 ?_
  refine va_sld hx hb hX hbl hbA hS (sv1 hk hL) dL_law_337 ?_
  refine lv_aload_n hx hb dL_law_338 rfl (lv_at hl 0 rfl) ?_
  refine lv_iload_n hx hb dL_law_339 rfl (lv_at hl 3 rfl) ?_
  refine lv_iconst (v := 2) hx hb dL_law_340 (by decide) ?_
  refine lv_iadd hx hb dL_law_341 ?_
  refine va_sld hx hb hX hbl hbA hS (sv2 hk hL) dL_law_342 ?_
  refine q_call2 (As := [.int (xs (nI k + 1).toNatClampNeg), .int (xs (nI k + 2).toNatClampNeg)]) (rest := [.int r]) S hK hT hP1 hP2 hS (cw_L_27 ht ⟨Nat.le_of_ble_eq_true rfl, Nat.le_of_ble_eq_true rfl⟩) rfl hl.1 rfl (Nat.le_of_ble_eq_true rfl) dL_law_343 ⟨Nat.le_of_ble_eq_true rfl, Nat.le_of_ble_eq_true rfl⟩ (c_X10_told hT.g2 rfl e2) (fun H locs hP1 hP2 hS => ?_)
  refine lv_icmp_eq (tgt := 1670) hx hb dL_law_346 (by decide) (fun _ => ?_) (fun z => absurd rfl z)
  exact next N1 N2 H locs ls hI2 hP1 hP2 hS hl
set_option maxHeartbeats 4000000 in
set_option maxRecDepth 100000 in
theorem lc_3 {p : Program} {l : Launch} {e : Env} {s : State} {m : MethodId} {below : List Frame} {meth : Method} {c : Code} {Q : State → Prop} {b L : Nat} {xs : Nat → Int32} {D : va_G} {K : Ks} {ad1 ad2 : Nat → Nat} {tC tA tP : Nat} {kK kV : Nat → Nat} {I : Mem → Mem → Prop} (S : CallFix p m c cL_law 4 s #[Value.ref b] Tw RL) (hK : va_K D classes (gty K) s) (hE : E1 (fun q : Nat => s.heap.size ≤ q) tC tA tP kK kV s) (hT : Two s ad1 ad2) (hX : va_X b L xs s s.heap) (hbl : b < s.heap.size) (hL : L ≤ 3072) {k : Nat} (hk : k + 6 ≤ L) (op : ∀ (x1 x2 : Int32) M1 M2, I M1 M2 → ∃ r M1' M2', f_X9_as 0 x1 x2 M1 = some (r, M1') ∧ f_X10_as 0 x1 x2 M2 = some (r, M2') ∧ I M1' M2') (next : ∀ (M1 M2 : Mem) (H : Heap) (locs : List Loc) (ls : Array Slot), I M1 M2 → va_P D classes (gws K G1 ad1 M1) H → va_P D classes (gws K G2 ad2 M2) H → va_S (fun q : Nat => s.heap.size ≤ q) s.heap H locs → lv_has ls 4 [(0, .ref b), (1, .ref (ad1 0)), (2, .ref (ad2 0)), (3, .int (nI k))] → W p l e room_1 s m #[Value.ref b] below meth c H locs 112 15807 Q (F0 m 1670 ls [])) {M1 M2 : Mem} {H : Heap} {locs : List Loc} {ls : Array Slot} (hI : I M1 M2) (hP1 : va_P D classes (gws K G1 ad1 M1) H) (hP2 : va_P D classes (gws K G2 ad2 M2) H) (hS : va_S (fun q : Nat => s.heap.size ≤ q) s.heap H locs) (hl : lv_has ls 4 [(0, .ref b), (1, .ref (ad1 0)), (2, .ref (ad2 0)), (3, .int (nI k))]) : W p l e room_1 s m #[Value.ref b] below meth c H locs 112 15807 Q (F0 m 351 ls []) := by
  have hx := S.1
  have hb := S.2.1
  have ht := S.2.2.2.2
  have hbA : ¬ (fun q : Nat => s.heap.size ≤ q) b := Nat.not_le.mpr hbl
  obtain ⟨r, N1, N2, e1, e2, hI2⟩ := op (xs (nI k + 1).toNatClampNeg) (xs (nI k + 2).toNatClampNeg) M1 M2 hI
  refine lv_aload_n hx hb dL_law_351 rfl (lv_at hl 1 rfl) ?_
  refine lv_aload_n hx hb dL_law_352 rfl (lv_at hl 0 rfl) ?_
  refine lv_iload_n hx hb dL_law_353 rfl (lv_at hl 3 rfl) ?_
  refine lv_iconst (v := 1) hx hb dL_law_354 (by decide) ?_
  refine lv_iadd hx hb dL_law_355 ?_
  refine va_sld hx hb hX hbl hbA hS (sv1 hk hL) dL_law_356 ?_
  refine lv_aload_n hx hb dL_law_357 rfl (lv_at hl 0 rfl) ?_
  refine lv_iload_n hx hb dL_law_358 rfl (lv_at hl 3 rfl) ?_
  refine lv_iconst (v := 2) hx hb dL_law_359 (by decide) ?_
  refine lv_iadd hx hb dL_law_360 ?_
  refine va_sld hx hb hX hbl hbA hS (sv2 hk hL) dL_law_361 ?_
  refine q_call1 (As := [.int (xs (nI k + 1).toNatClampNeg), .int (xs (nI k + 2).toNatClampNeg)]) (rest := []) S hK hE hT hP1 hP2 hS (cw_L_28 ht ⟨Nat.le_of_ble_eq_true rfl, Nat.le_of_ble_eq_true rfl⟩) rfl hl.1 rfl (Nat.le_of_ble_eq_true rfl) dL_law_362 ⟨Nat.le_of_ble_eq_true rfl, Nat.le_of_ble_eq_true rfl⟩ (c_X9_as hT.g1 rfl e1) (fun H locs hP1 hP2 hS => ?_)
  refine lv_aload_n hx hb dL_law_365 rfl (lv_at hl 2 rfl) ?_
  refine lv_aload_n hx hb dL_law_366 rfl (lv_at hl 0 rfl) ?_
  refine lv_iload_n hx hb dL_law_367 rfl (lv_at hl 3 rfl) ?_
  refine lv_iconst (v := 1) hx hb dL_law_368 (by decide) ?_
  refine lv_iadd hx hb dL_law_369 ?_
  refine va_sld hx hb hX hbl hbA hS (sv1 hk hL) dL_law_370 ?_
  refine lv_aload_n hx hb dL_law_371 rfl (lv_at hl 0 rfl) ?_
  refine lv_iload_n hx hb dL_law_372 rfl (lv_at hl 3 rfl) ?_
  refine lv_iconst (v := 2) hx hb dL_law_373 (by decide) ?_
  refine lv_iadd hx hb dL_law_374 ?_
  refine va_sld hx hb hX hbl hbA hS (sv2 hk hL) dL_law_375 ?_
  refine q_call2 (As := [.int (xs (nI k + 1).toNatClampNeg), .int (xs (nI k + 2).toNatClampNeg)]) (rest := [.int r]) S hK hT hP1 hP2 hS (cw_L_31 ht ⟨Nat.le_of_ble_eq_true rfl, Nat.le_of_ble_eq_true rfl⟩) rfl hl.1 rfl (Nat.le_of_ble_eq_true rfl) dL_law_376 ⟨Nat.le_of_ble_eq_true rfl, Nat.le_of_ble_eq_true rfl⟩ (c_X10_as hT.g2 rfl e2) (fun H locs hP1 hP2 hS => ?_)
  refine lv_icmp_eq (tgt := 1670) hx hb dL_law_379 (by decide) (fun _ => ?_) (fun z => absurd rfl z)
  exact next N1 N2 H locs ls hI2 hP1 hP2 hS hl
set_option maxHeartbeats 4000000 in
set_option maxRecDepth 100000 in
theorem lc_4 {p : Program} {l : Launch} {e : Env} {s : State} {m : MethodId} {below : List Frame} {meth : Method} {c : Code} {Q : State → Prop} {b L : Nat} {xs : Nat → Int32} {D : va_G} {K : Ks} {ad1 ad2 : Nat → Nat} {tC tA tP : Nat} {kK kV : Nat → Nat} {I : Mem → Mem → Prop} (S : CallFix p m c cL_law 4 s #[Value.ref b] Tw RL) (hK : va_K D classes (gty K) s) (hE : E1 (fun q : Nat => s.heap.size ≤ q) tC tA tP kK kV s) (hT : Two s ad1 ad2) (hX : va_X b L xs s s.heap) (hbl : b < s.heap.size) (hL : L ≤ 3072) {k : Nat} (hk : k + 6 ≤ L) (op : ∀ (x1 x2 : Int32) M1 M2, I M1 M2 → ∃ r M1' M2', f_X9_turns 0 x1 x2 M1 = some (r, M1') ∧ f_X10_turns 0 x1 x2 M2 = some (r, M2') ∧ I M1' M2') (next : ∀ (M1 M2 : Mem) (H : Heap) (locs : List Loc) (ls : Array Slot), I M1 M2 → va_P D classes (gws K G1 ad1 M1) H → va_P D classes (gws K G2 ad2 M2) H → va_S (fun q : Nat => s.heap.size ≤ q) s.heap H locs → lv_has ls 4 [(0, .ref b), (1, .ref (ad1 0)), (2, .ref (ad2 0)), (3, .int (nI k))] → W p l e room_1 s m #[Value.ref b] below meth c H locs 112 15807 Q (F0 m 1670 ls [])) {M1 M2 : Mem} {H : Heap} {locs : List Loc} {ls : Array Slot} (hI : I M1 M2) (hP1 : va_P D classes (gws K G1 ad1 M1) H) (hP2 : va_P D classes (gws K G2 ad2 M2) H) (hS : va_S (fun q : Nat => s.heap.size ≤ q) s.heap H locs) (hl : lv_has ls 4 [(0, .ref b), (1, .ref (ad1 0)), (2, .ref (ad2 0)), (3, .int (nI k))]) : W p l e room_1 s m #[Value.ref b] below meth c H locs 112 15807 Q (F0 m 384 ls []) := by
  have hx := S.1
  have hb := S.2.1
  have ht := S.2.2.2.2
  have hbA : ¬ (fun q : Nat => s.heap.size ≤ q) b := Nat.not_le.mpr hbl
  obtain ⟨r, N1, N2, e1, e2, hI2⟩ := op (xs (nI k + 1).toNatClampNeg) (xs (nI k + 2).toNatClampNeg) M1 M2 hI
  refine lv_aload_n hx hb dL_law_384 rfl (lv_at hl 1 rfl) ?_
  refine lv_aload_n hx hb dL_law_385 rfl (lv_at hl 0 rfl) ?_
  refine lv_iload_n hx hb dL_law_386 rfl (lv_at hl 3 rfl) ?_
  refine lv_iconst (v := 1) hx hb dL_law_387 (by decide) ?_
  refine lv_iadd hx hb dL_law_388 ?_
  refine va_sld hx hb hX hbl hbA hS (sv1 hk hL) dL_law_389 ?_
  refine lv_aload_n hx hb dL_law_390 rfl (lv_at hl 0 rfl) ?_
  refine lv_iload_n hx hb dL_law_391 rfl (lv_at hl 3 rfl) ?_
  refine lv_iconst (v := 2) hx hb dL_law_392 (by decide) ?_
  refine lv_iadd hx hb dL_law_393 ?_
  refine va_sld hx hb hX hbl hbA hS (sv2 hk hL) dL_law_394 ?_
  refine q_call1 (As := [.int (xs (nI k + 1).toNatClampNeg), .int (xs (nI k + 2).toNatClampNeg)]) (rest := []) S hK hE hT hP1 hP2 hS (cw_L_32 ht ⟨Nat.le_of_ble_eq_true rfl, Nat.le_of_ble_eq_true rfl⟩) rfl hl.1 rfl (Nat.le_of_ble_eq_true rfl) dL_law_395 ⟨Nat.le_of_ble_eq_true rfl, Nat.le_of_ble_eq_true rfl⟩ (c_X9_turns hT.g1 rfl e1) (fun H locs hP1 hP2 hS => ?_)
  refine lv_aload_n hx hb dL_law_398 rfl (lv_at hl 2 rfl) ?_
  refine lv_aload_n hx hb dL_law_399 rfl (lv_at hl 0 rfl) ?_
  refine lv_iload_n hx hb dL_law_400 rfl (lv_at hl 3 rfl) ?_
  refine lv_iconst (v := 1) hx hb dL_law_401 (by decide) ?_
  refine lv_iadd hx hb dL_law_402 ?_
  refine va_sld hx hb hX hbl hbA hS (sv1 hk hL) dL_law_403 ?_
  refine lv_aload_n hx hb dL_law_404 rfl (lv_at hl 0 rfl) ?_
  refine lv_iload_n hx hb dL_law_405 rfl (lv_at hl 3 rfl) ?_
  refine lv_iconst (v := 2) hx hb dL_law_406 (by decide) ?_
  refine lv_iadd hx hb dL_law_407 ?_
  refine va_sld hx hb hX hbl hbA hS (sv2 hk hL) dL_law_408 ?_
  refine q_call2 (As := [.int (xs (nI k + 1).toNatClampNeg), .int (xs (nI k + 2).toNatClampNeg)]) (rest := [.int r]) S hK hT hP1 hP2 hS (cw_L_35 ht ⟨Nat.le_of_ble_eq_true rfl, Nat.le_of_ble_eq_true rfl⟩) rfl hl.1 rfl (Nat.le_of_ble_eq_true rfl) dL_law_409 ⟨Nat.le_of_ble_eq_true rfl, Nat.le_of_ble_eq_true rfl⟩ (c_X10_turns hT.g2 rfl e2) (fun H locs hP1 hP2 hS => ?_)
  refine lv_icmp_eq (tgt := 1670) hx hb dL_law_412 (by decide) (fun _ => ?_) (fun z => absurd rfl z)
  exact next N1 N2 H locs ls hI2 hP1 hP2 hS hl
set_option maxHeartbeats 4000000 in
set_option maxRecDepth 100000 in
theorem lc_5 {p : Program} {l : Launch} {e : Env} {s : State} {m : MethodId} {below : List Frame} {meth : Method} {c : Code} {Q : State → Prop} {b L : Nat} {xs : Nat → Int32} {D : va_G} {K : Ks} {ad1 ad2 : Nat → Nat} {tC tA tP : Nat} {kK kV : Nat → Nat} {I : Mem → Mem → Prop} (S : CallFix p m c cL_law 4 s #[Value.ref b] Tw RL) (hK : va_K D classes (gty K) s) (hE : E1 (fun q : Nat => s.heap.size ≤ q) tC tA tP kK kV s) (hT : Two s ad1 ad2) (hX : va_X b L xs s s.heap) (hbl : b < s.heap.size) (hL : L ≤ 3072) {k : Nat} (hk : k + 6 ≤ L) (op : ∀ (x1 : Int32) M1 M2, I M1 M2 → ∃ r M1' M2', f_X9_base 0 x1 M1 = some (r, M1') ∧ f_X10_base 0 x1 M2 = some (r, M2') ∧ I M1' M2') (next : ∀ (M1 M2 : Mem) (H : Heap) (locs : List Loc) (ls : Array Slot), I M1 M2 → va_P D classes (gws K G1 ad1 M1) H → va_P D classes (gws K G2 ad2 M2) H → va_S (fun q : Nat => s.heap.size ≤ q) s.heap H locs → lv_has ls 4 [(0, .ref b), (1, .ref (ad1 0)), (2, .ref (ad2 0)), (3, .int (nI k))] → W p l e room_1 s m #[Value.ref b] below meth c H locs 112 15807 Q (F0 m 1670 ls [])) {M1 M2 : Mem} {H : Heap} {locs : List Loc} {ls : Array Slot} (hI : I M1 M2) (hP1 : va_P D classes (gws K G1 ad1 M1) H) (hP2 : va_P D classes (gws K G2 ad2 M2) H) (hS : va_S (fun q : Nat => s.heap.size ≤ q) s.heap H locs) (hl : lv_has ls 4 [(0, .ref b), (1, .ref (ad1 0)), (2, .ref (ad2 0)), (3, .int (nI k))]) : W p l e room_1 s m #[Value.ref b] below meth c H locs 112 15807 Q (F0 m 417 ls []) := by
  have hx := S.1
  have hb := S.2.1
  have ht := S.2.2.2.2
  have hbA : ¬ (fun q : Nat => s.heap.size ≤ q) b := Nat.not_le.mpr hbl
  obtain ⟨r, N1, N2, e1, e2, hI2⟩ := op (xs (nI k + 1).toNatClampNeg) M1 M2 hI
  refine lv_aload_n hx hb dL_law_417 rfl (lv_at hl 1 rfl) ?_
  refine lv_aload_n hx hb dL_law_418 rfl (lv_at hl 0 rfl) ?_
  refine lv_iload_n hx hb dL_law_419 rfl (lv_at hl 3 rfl) ?_
  refine lv_iconst (v := 1) hx hb dL_law_420 (by decide) ?_
  refine lv_iadd hx hb dL_law_421 ?_
  refine va_sld hx hb hX hbl hbA hS (sv1 hk hL) dL_law_422 ?_
  refine q_call1 (As := [.int (xs (nI k + 1).toNatClampNeg)]) (rest := []) S hK hE hT hP1 hP2 hS (cw_L_36 ht ⟨Nat.le_of_ble_eq_true rfl, Nat.le_of_ble_eq_true rfl⟩) rfl hl.1 rfl (Nat.le_of_ble_eq_true rfl) dL_law_423 ⟨Nat.le_of_ble_eq_true rfl, Nat.le_of_ble_eq_true rfl⟩ (c_X9_base hT.g1 rfl e1) (fun H locs hP1 hP2 hS => ?_)
  refine lv_aload_n hx hb dL_law_426 rfl (lv_at hl 2 rfl) ?_
  refine lv_aload_n hx hb dL_law_427 rfl (lv_at hl 0 rfl) ?_
  refine lv_iload_n hx hb dL_law_428 rfl (lv_at hl 3 rfl) ?_
  refine lv_iconst (v := 1) hx hb dL_law_429 (by decide) ?_
  refine lv_iadd hx hb dL_law_430 ?_
  refine va_sld hx hb hX hbl hbA hS (sv1 hk hL) dL_law_431 ?_
  refine q_call2 (As := [.int (xs (nI k + 1).toNatClampNeg)]) (rest := [.int r]) S hK hT hP1 hP2 hS (cw_L_39 ht ⟨Nat.le_of_ble_eq_true rfl, Nat.le_of_ble_eq_true rfl⟩) rfl hl.1 rfl (Nat.le_of_ble_eq_true rfl) dL_law_432 ⟨Nat.le_of_ble_eq_true rfl, Nat.le_of_ble_eq_true rfl⟩ (c_X10_base hT.g2 rfl e2) (fun H locs hP1 hP2 hS => ?_)
  refine lv_icmp_eq (tgt := 1670) hx hb dL_law_435 (by decide) (fun _ => ?_) (fun z => absurd rfl z)
  exact next N1 N2 H locs ls hI2 hP1 hP2 hS hl
set_option maxHeartbeats 4000000 in
set_option maxRecDepth 100000 in
theorem lc_6 {p : Program} {l : Launch} {e : Env} {s : State} {m : MethodId} {below : List Frame} {meth : Method} {c : Code} {Q : State → Prop} {b L : Nat} {xs : Nat → Int32} {D : va_G} {K : Ks} {ad1 ad2 : Nat → Nat} {tC tA tP : Nat} {kK kV : Nat → Nat} {I : Mem → Mem → Prop} (S : CallFix p m c cL_law 4 s #[Value.ref b] Tw RL) (hK : va_K D classes (gty K) s) (hE : E1 (fun q : Nat => s.heap.size ≤ q) tC tA tP kK kV s) (hT : Two s ad1 ad2) (hX : va_X b L xs s s.heap) (hbl : b < s.heap.size) (hL : L ≤ 3072) {k : Nat} (hk : k + 6 ≤ L) (op : ∀ (x1 x2 x3 : Int32) M1 M2, I M1 M2 → ∃ r M1' M2', f_X9_feed 0 x1 x2 x3 M1 = some (r, M1') ∧ f_X10_feed 0 x1 x2 x3 M2 = some (r, M2') ∧ I M1' M2') (next : ∀ (M1 M2 : Mem) (H : Heap) (locs : List Loc) (ls : Array Slot), I M1 M2 → va_P D classes (gws K G1 ad1 M1) H → va_P D classes (gws K G2 ad2 M2) H → va_S (fun q : Nat => s.heap.size ≤ q) s.heap H locs → lv_has ls 4 [(0, .ref b), (1, .ref (ad1 0)), (2, .ref (ad2 0)), (3, .int (nI k))] → W p l e room_1 s m #[Value.ref b] below meth c H locs 112 15807 Q (F0 m 1670 ls [])) {M1 M2 : Mem} {H : Heap} {locs : List Loc} {ls : Array Slot} (hI : I M1 M2) (hP1 : va_P D classes (gws K G1 ad1 M1) H) (hP2 : va_P D classes (gws K G2 ad2 M2) H) (hS : va_S (fun q : Nat => s.heap.size ≤ q) s.heap H locs) (hl : lv_has ls 4 [(0, .ref b), (1, .ref (ad1 0)), (2, .ref (ad2 0)), (3, .int (nI k))]) : W p l e room_1 s m #[Value.ref b] below meth c H locs 112 15807 Q (F0 m 440 ls []) := by
  have hx := S.1
  have hb := S.2.1
  have ht := S.2.2.2.2
  have hbA : ¬ (fun q : Nat => s.heap.size ≤ q) b := Nat.not_le.mpr hbl
  obtain ⟨r, N1, N2, e1, e2, hI2⟩ := op (xs (nI k + 1).toNatClampNeg) (xs (nI k + 2).toNatClampNeg) (xs (nI k + 3).toNatClampNeg) M1 M2 hI
  refine lv_aload_n hx hb dL_law_440 rfl (lv_at hl 1 rfl) ?_
  refine lv_aload_n hx hb dL_law_441 rfl (lv_at hl 0 rfl) ?_
  refine lv_iload_n hx hb dL_law_442 rfl (lv_at hl 3 rfl) ?_
  refine lv_iconst (v := 1) hx hb dL_law_443 (by decide) ?_
  refine lv_iadd hx hb dL_law_444 ?_
  refine va_sld hx hb hX hbl hbA hS (sv1 hk hL) dL_law_445 ?_
  refine lv_aload_n hx hb dL_law_446 rfl (lv_at hl 0 rfl) ?_
  refine lv_iload_n hx hb dL_law_447 rfl (lv_at hl 3 rfl) ?_
  refine lv_iconst (v := 2) hx hb dL_law_448 (by decide) ?_
  refine lv_iadd hx hb dL_law_449 ?_
  refine va_sld hx hb hX hbl hbA hS (sv2 hk hL) dL_law_450 ?_
  refine lv_aload_n hx hb dL_law_451 rfl (lv_at hl 0 rfl) ?_
  refine lv_iload_n hx hb dL_law_452 rfl (lv_at hl 3 rfl) ?_
  refine lv_iconst (v := 3) hx hb dL_law_453 (by decide) ?_
  refine lv_iadd hx hb dL_law_454 ?_
  refine va_sld hx hb hX hbl hbA hS (sv3 hk hL) dL_law_455 ?_
  refine q_call1 (As := [.int (xs (nI k + 1).toNatClampNeg), .int (xs (nI k + 2).toNatClampNeg), .int (xs (nI k + 3).toNatClampNeg)]) (rest := []) S hK hE hT hP1 hP2 hS (cw_L_40 ht ⟨Nat.le_of_ble_eq_true rfl, Nat.le_of_ble_eq_true rfl⟩) rfl hl.1 rfl (Nat.le_of_ble_eq_true rfl) dL_law_456 ⟨Nat.le_of_ble_eq_true rfl, Nat.le_of_ble_eq_true rfl⟩ (c_X9_feed hT.g1 rfl e1) (fun H locs hP1 hP2 hS => ?_)
  refine lv_aload_n hx hb dL_law_459 rfl (lv_at hl 2 rfl) ?_
  refine lv_aload_n hx hb dL_law_460 rfl (lv_at hl 0 rfl) ?_
  refine lv_iload_n hx hb dL_law_461 rfl (lv_at hl 3 rfl) ?_
  refine lv_iconst (v := 1) hx hb dL_law_462 (by decide) ?_
  refine lv_iadd hx hb dL_law_463 ?_
  refine va_sld hx hb hX hbl hbA hS (sv1 hk hL) dL_law_464 ?_
  refine lv_aload_n hx hb dL_law_465 rfl (lv_at hl 0 rfl) ?_
  refine lv_iload_n hx hb dL_law_466 rfl (lv_at hl 3 rfl) ?_
  refine lv_iconst (v := 2) hx hb dL_law_467 (by decide) ?_
  refine lv_iadd hx hb dL_law_468 ?_
  refine va_sld hx hb hX hbl hbA hS (sv2 hk hL) dL_law_469 ?_
  refine lv_aload_n hx hb dL_law_470 rfl (lv_at hl 0 rfl) ?_
  refine lv_iload_n hx hb dL_law_471 rfl (lv_at hl 3 rfl) ?_
  refine lv_iconst (v := 3) hx hb dL_law_472 (by decide) ?_
  refine lv_iadd hx hb dL_law_473 ?_
  refine va_sld hx hb hX hbl hbA hS (sv3 hk hL) dL_law_474 ?_
  refine q_call2 (As := [.int (xs (nI k + 1).toNatClampNeg), .int (xs (nI k + 2).toNatClampNeg), .int (xs (nI k + 3).toNatClampNeg)]) (rest := [.int r]) S hK hT hP1 hP2 hS (cw_L_44 ht ⟨Nat.le_of_ble_eq_true rfl, Nat.le_of_ble_eq_true rfl⟩) rfl hl.1 rfl (Nat.le_of_ble_eq_true rfl) dL_law_475 ⟨Nat.le_of_ble_eq_true rfl, Nat.le_of_ble_eq_true rfl⟩ (c_X10_feed hT.g2 rfl e2) (fun H locs hP1 hP2 hS => ?_)
  refine lv_icmp_eq (tgt := 1670) hx hb dL_law_478 (by decide) (fun _ => ?_) (fun z => absurd rfl z)
  exact next N1 N2 H locs ls hI2 hP1 hP2 hS hl
set_option maxHeartbeats 4000000 in
set_option maxRecDepth 100000 in
theorem lc_7 {p : Program} {l : Launch} {e : Env} {s : State} {m : MethodId} {below : List Frame} {meth : Method} {c : Code} {Q : State → Prop} {b L : Nat} {xs : Nat → Int32} {D : va_G} {K : Ks} {ad1 ad2 : Nat → Nat} {tC tA tP : Nat} {kK kV : Nat → Nat} {I : Mem → Mem → Prop} (S : CallFix p m c cL_law 4 s #[Value.ref b] Tw RL) (hK : va_K D classes (gty K) s) (hE : E1 (fun q : Nat => s.heap.size ≤ q) tC tA tP kK kV s) (hT : Two s ad1 ad2) (hX : va_X b L xs s s.heap) (hbl : b < s.heap.size) (hL : L ≤ 3072) {k : Nat} (hk : k + 6 ≤ L) (op : ∀ (x1 : Int32) M1 M2, I M1 M2 → ∃ r M1' M2', f_X9_trim 0 x1 M1 = some (r, M1') ∧ f_X10_trim 0 x1 M2 = some (r, M2') ∧ I M1' M2') (next : ∀ (M1 M2 : Mem) (H : Heap) (locs : List Loc) (ls : Array Slot), I M1 M2 → va_P D classes (gws K G1 ad1 M1) H → va_P D classes (gws K G2 ad2 M2) H → va_S (fun q : Nat => s.heap.size ≤ q) s.heap H locs → lv_has ls 4 [(0, .ref b), (1, .ref (ad1 0)), (2, .ref (ad2 0)), (3, .int (nI k))] → W p l e room_1 s m #[Value.ref b] below meth c H locs 112 15807 Q (F0 m 1670 ls [])) {M1 M2 : Mem} {H : Heap} {locs : List Loc} {ls : Array Slot} (hI : I M1 M2) (hP1 : va_P D classes (gws K G1 ad1 M1) H) (hP2 : va_P D classes (gws K G2 ad2 M2) H) (hS : va_S (fun q : Nat => s.heap.size ≤ q) s.heap H locs) (hl : lv_has ls 4 [(0, .ref b), (1, .ref (ad1 0)), (2, .ref (ad2 0)), (3, .int (nI k))]) : W p l e room_1 s m #[Value.ref b] below meth c H locs 112 15807 Q (F0 m 483 ls []) := by
  have hx := S.1
  have hb := S.2.1
  have ht := S.2.2.2.2
  have hbA : ¬ (fun q : Nat => s.heap.size ≤ q) b := Nat.not_le.mpr hbl
  obtain ⟨r, N1, N2, e1, e2, hI2⟩ := op (xs (nI k + 1).toNatClampNeg) M1 M2 hI
  refine lv_aload_n hx hb dL_law_483 rfl (lv_at hl 1 rfl) ?_
  refine lv_aload_n hx hb dL_law_484 rfl (lv_at hl 0 rfl) ?_
  refine lv_iload_n hx hb dL_law_485 rfl (lv_at hl 3 rfl) ?_
  refine lv_iconst (v := 1) hx hb dL_law_486 (by decide) ?_
  refine lv_iadd hx hb dL_law_487 ?_
  refine va_sld hx hb hX hbl hbA hS (sv1 hk hL) dL_law_488 ?_
  refine q_call1 (As := [.int (xs (nI k + 1).toNatClampNeg)]) (rest := []) S hK hE hT hP1 hP2 hS (cw_L_45 ht ⟨Nat.le_of_ble_eq_true rfl, Nat.le_of_ble_eq_true rfl⟩) rfl hl.1 rfl (Nat.le_of_ble_eq_true rfl) dL_law_489 ⟨Nat.le_of_ble_eq_true rfl, Nat.le_of_ble_eq_true rfl⟩ (c_X9_trim hT.g1 rfl e1) (fun H locs hP1 hP2 hS => ?_)
  refine lv_aload_n hx hb dL_law_492 rfl (lv_at hl 2 rfl) ?_
  refine lv_aload_n hx hb dL_law_493 rfl (lv_at hl 0 rfl) ?_
  refine lv_iload_n hx hb dL_law_494 rfl (lv_at hl 3 rfl) ?_
  refine lv_iconst (v := 1) hx hb dL_law_495 (by decide) ?_
  refine lv_iadd hx hb dL_law_496 ?_
  refine va_sld hx hb hX hbl hbA hS (sv1 hk hL) dL_law_497 ?_
  refine q_call2 (As := [.int (xs (nI k + 1).toNatClampNeg)]) (rest := [.int r]) S hK hT hP1 hP2 hS (cw_L_48 ht ⟨Nat.le_of_ble_eq_true rfl, Nat.le_of_ble_eq_true rfl⟩) rfl hl.1 rfl (Nat.le_of_ble_eq_true rfl) dL_law_498 ⟨Nat.le_of_ble_eq_true rfl, Nat.le_of_ble_eq_true rfl⟩ (c_X10_trim hT.g2 rfl e2) (fun H locs hP1 hP2 hS => ?_)
  refine lv_icmp_eq (tgt := 1670) hx hb dL_law_501 (by decide) (fun _ => ?_) (fun z => absurd rfl z)
  exact next N1 N2 H locs ls hI2 hP1 hP2 hS hl
set_option maxHeartbeats 4000000 in
set_option maxRecDepth 100000 in
theorem lc_8 {p : Program} {l : Launch} {e : Env} {s : State} {m : MethodId} {below : List Frame} {meth : Method} {c : Code} {Q : State → Prop} {b L : Nat} {xs : Nat → Int32} {D : va_G} {K : Ks} {ad1 ad2 : Nat → Nat} {tC tA tP : Nat} {kK kV : Nat → Nat} {I : Mem → Mem → Prop} (S : CallFix p m c cL_law 4 s #[Value.ref b] Tw RL) (hK : va_K D classes (gty K) s) (hE : E1 (fun q : Nat => s.heap.size ≤ q) tC tA tP kK kV s) (hT : Two s ad1 ad2) (hX : va_X b L xs s s.heap) (hbl : b < s.heap.size) (hL : L ≤ 3072) {k : Nat} (hk : k + 6 ≤ L) (op : ∀ M1 M2, I M1 M2 → ∃ r M1' M2', f_X9_text 0  M1 = some (r, M1') ∧ f_X10_text 0  M2 = some (r, M2') ∧ I M1' M2') (next : ∀ (M1 M2 : Mem) (H : Heap) (locs : List Loc) (ls : Array Slot), I M1 M2 → va_P D classes (gws K G1 ad1 M1) H → va_P D classes (gws K G2 ad2 M2) H → va_S (fun q : Nat => s.heap.size ≤ q) s.heap H locs → lv_has ls 4 [(0, .ref b), (1, .ref (ad1 0)), (2, .ref (ad2 0)), (3, .int (nI k))] → W p l e room_1 s m #[Value.ref b] below meth c H locs 112 15807 Q (F0 m 1670 ls [])) {M1 M2 : Mem} {H : Heap} {locs : List Loc} {ls : Array Slot} (hI : I M1 M2) (hP1 : va_P D classes (gws K G1 ad1 M1) H) (hP2 : va_P D classes (gws K G2 ad2 M2) H) (hS : va_S (fun q : Nat => s.heap.size ≤ q) s.heap H locs) (hl : lv_has ls 4 [(0, .ref b), (1, .ref (ad1 0)), (2, .ref (ad2 0)), (3, .int (nI k))]) : W p l e room_1 s m #[Value.ref b] below meth c H locs 112 15807 Q (F0 m 506 ls []) := by
  have hx := S.1
  have hb := S.2.1
  have ht := S.2.2.2.2
  have hbA : ¬ (fun q : Nat => s.heap.size ≤ q) b := Nat.not_le.mpr hbl
  obtain ⟨r, N1, N2, e1, e2, hI2⟩ := op  M1 M2 hI
  refine lv_aload_n hx hb dL_law_506 rfl (lv_at hl 1 rfl) ?_
  refine q_call1 (As := []) (rest := []) S hK hE hT hP1 hP2 hS (cw_L_49 ht ⟨Nat.le_of_ble_eq_true rfl, Nat.le_of_ble_eq_true rfl⟩) rfl hl.1 rfl (Nat.le_of_ble_eq_true rfl) dL_law_507 ⟨Nat.le_of_ble_eq_true rfl, Nat.le_of_ble_eq_true rfl⟩ (c_X9_text hT.g1 rfl e1) (fun H locs hP1 hP2 hS => ?_)
  refine lv_aload_n hx hb dL_law_510 rfl (lv_at hl 2 rfl) ?_
  refine q_call2 (As := []) (rest := [.int r]) S hK hT hP1 hP2 hS (cw_L_53 ht ⟨Nat.le_of_ble_eq_true rfl, Nat.le_of_ble_eq_true rfl⟩) rfl hl.1 rfl (Nat.le_of_ble_eq_true rfl) dL_law_511 ⟨Nat.le_of_ble_eq_true rfl, Nat.le_of_ble_eq_true rfl⟩ (c_X10_text hT.g2 rfl e2) (fun H locs hP1 hP2 hS => ?_)
  refine lv_icmp_eq (tgt := 1670) hx hb dL_law_514 (by decide) (fun _ => ?_) (fun z => absurd rfl z)
  exact next N1 N2 H locs ls hI2 hP1 hP2 hS hl
set_option maxHeartbeats 4000000 in
set_option maxRecDepth 100000 in
theorem lc_9 {p : Program} {l : Launch} {e : Env} {s : State} {m : MethodId} {below : List Frame} {meth : Method} {c : Code} {Q : State → Prop} {b L : Nat} {xs : Nat → Int32} {D : va_G} {K : Ks} {ad1 ad2 : Nat → Nat} {tC tA tP : Nat} {kK kV : Nat → Nat} {I : Mem → Mem → Prop} (S : CallFix p m c cL_law 4 s #[Value.ref b] Tw RL) (hK : va_K D classes (gty K) s) (hE : E1 (fun q : Nat => s.heap.size ≤ q) tC tA tP kK kV s) (hT : Two s ad1 ad2) (hX : va_X b L xs s s.heap) (hbl : b < s.heap.size) (hL : L ≤ 3072) {k : Nat} (hk : k + 6 ≤ L) (op : ∀ (x1 x2 : Int32) M1 M2, I M1 M2 → ∃ r M1' M2', f_X9_of 0 x1 x2 M1 = some (r, M1') ∧ f_X10_of 0 x1 x2 M2 = some (r, M2') ∧ I M1' M2') (next : ∀ (M1 M2 : Mem) (H : Heap) (locs : List Loc) (ls : Array Slot), I M1 M2 → va_P D classes (gws K G1 ad1 M1) H → va_P D classes (gws K G2 ad2 M2) H → va_S (fun q : Nat => s.heap.size ≤ q) s.heap H locs → lv_has ls 4 [(0, .ref b), (1, .ref (ad1 0)), (2, .ref (ad2 0)), (3, .int (nI k))] → W p l e room_1 s m #[Value.ref b] below meth c H locs 112 15807 Q (F0 m 1670 ls [])) {M1 M2 : Mem} {H : Heap} {locs : List Loc} {ls : Array Slot} (hI : I M1 M2) (hP1 : va_P D classes (gws K G1 ad1 M1) H) (hP2 : va_P D classes (gws K G2 ad2 M2) H) (hS : va_S (fun q : Nat => s.heap.size ≤ q) s.heap H locs) (hl : lv_has ls 4 [(0, .ref b), (1, .ref (ad1 0)), (2, .ref (ad2 0)), (3, .int (nI k))]) : W p l e room_1 s m #[Value.ref b] below meth c H locs 112 15807 Q (F0 m 519 ls []) := by
  have hx := S.1
  have hb := S.2.1
  have ht := S.2.2.2.2
  have hbA : ¬ (fun q : Nat => s.heap.size ≤ q) b := Nat.not_le.mpr hbl
  obtain ⟨r, N1, N2, e1, e2, hI2⟩ := op (xs (nI k + 1).toNatClampNeg) (xs (nI k + 2).toNatClampNeg) M1 M2 hI
  refine lv_aload_n hx hb dL_law_519 rfl (lv_at hl 1 rfl) ?_
  refine lv_aload_n hx hb dL_law_520 rfl (lv_at hl 0 rfl) ?_
  refine lv_iload_n hx hb dL_law_521 rfl (lv_at hl 3 rfl) ?_
  refine lv_iconst (v := 1) hx hb dL_law_522 (by decide) ?_
  refine lv_iadd hx hb dL_law_523 ?_
  refine va_sld hx hb hX hbl hbA hS (sv1 hk hL) dL_law_524 ?_
  refine lv_aload_n hx hb dL_law_525 rfl (lv_at hl 0 rfl) ?_
  refine lv_iload_n hx hb dL_law_526 rfl (lv_at hl 3 rfl) ?_
  refine lv_iconst (v := 2) hx hb dL_law_527 (by decide) ?_
  refine lv_iadd hx hb dL_law_528 ?_
  refine va_sld hx hb hX hbl hbA hS (sv2 hk hL) dL_law_529 ?_
  refine q_call1 (As := [.int (xs (nI k + 1).toNatClampNeg), .int (xs (nI k + 2).toNatClampNeg)]) (rest := []) S hK hE hT hP1 hP2 hS (cw_L_54 ht ⟨Nat.le_of_ble_eq_true rfl, Nat.le_of_ble_eq_true rfl⟩) rfl hl.1 rfl (Nat.le_of_ble_eq_true rfl) dL_law_530 ⟨Nat.le_of_ble_eq_true rfl, Nat.le_of_ble_eq_true rfl⟩ (c_X9_of hT.g1 rfl e1) (fun H locs hP1 hP2 hS => ?_)
  refine lv_aload_n hx hb dL_law_533 rfl (lv_at hl 2 rfl) ?_
  refine lv_aload_n hx hb dL_law_534 rfl (lv_at hl 0 rfl) ?_
  refine lv_iload_n hx hb dL_law_535 rfl (lv_at hl 3 rfl) ?_
  refine lv_iconst (v := 1) hx hb dL_law_536 (by decide) ?_
  refine lv_iadd hx hb dL_law_537 ?_
  refine va_sld hx hb hX hbl hbA hS (sv1 hk hL) dL_law_538 ?_
  refine lv_aload_n hx hb dL_law_539 rfl (lv_at hl 0 rfl) ?_
  refine lv_iload_n hx hb dL_law_540 rfl (lv_at hl 3 rfl) ?_
  refine lv_iconst (v := 2) hx hb dL_law_541 (by decide) ?_
  refine lv_iadd hx hb dL_law_542 ?_
  refine va_sld hx hb hX hbl hbA hS (sv2 hk hL) dL_law_543 ?_
  refine q_call2 (As := [.int (xs (nI k + 1).toNatClampNeg), .int (xs (nI k + 2).toNatClampNeg)]) (rest := [.int r]) S hK hT hP1 hP2 hS (cw_L_57 ht ⟨Nat.le_of_ble_eq_true rfl, Nat.le_of_ble_eq_true rfl⟩) rfl hl.1 rfl (Nat.le_of_ble_eq_true rfl) dL_law_544 ⟨Nat.le_of_ble_eq_true rfl, Nat.le_of_ble_eq_true rfl⟩ (c_X10_of hT.g2 rfl e2) (fun H locs hP1 hP2 hS => ?_)
  refine lv_icmp_eq (tgt := 1670) hx hb dL_law_547 (by decide) (fun _ => ?_) (fun z => absurd rfl z)
  exact next N1 N2 H locs ls hI2 hP1 hP2 hS hl
set_option maxHeartbeats 4000000 in
set_option maxRecDepth 100000 in
theorem lc_10 {p : Program} {l : Launch} {e : Env} {s : State} {m : MethodId} {below : List Frame} {meth : Method} {c : Code} {Q : State → Prop} {b L : Nat} {xs : Nat → Int32} {D : va_G} {K : Ks} {ad1 ad2 : Nat → Nat} {tC tA tP : Nat} {kK kV : Nat → Nat} {I : Mem → Mem → Prop} (S : CallFix p m c cL_law 4 s #[Value.ref b] Tw RL) (hK : va_K D classes (gty K) s) (hE : E1 (fun q : Nat => s.heap.size ≤ q) tC tA tP kK kV s) (hT : Two s ad1 ad2) (hX : va_X b L xs s s.heap) (hbl : b < s.heap.size) (hL : L ≤ 3072) {k : Nat} (hk : k + 6 ≤ L) (op : ∀ (x1 x2 : Int32) M1 M2, I M1 M2 → ∃ r M1' M2', f_X9_why 0 x1 x2 M1 = some (r, M1') ∧ f_X10_why 0 x1 x2 M2 = some (r, M2') ∧ I M1' M2') (next : ∀ (M1 M2 : Mem) (H : Heap) (locs : List Loc) (ls : Array Slot), I M1 M2 → va_P D classes (gws K G1 ad1 M1) H → va_P D classes (gws K G2 ad2 M2) H → va_S (fun q : Nat => s.heap.size ≤ q) s.heap H locs → lv_has ls 4 [(0, .ref b), (1, .ref (ad1 0)), (2, .ref (ad2 0)), (3, .int (nI k))] → W p l e room_1 s m #[Value.ref b] below meth c H locs 112 15807 Q (F0 m 1670 ls [])) {M1 M2 : Mem} {H : Heap} {locs : List Loc} {ls : Array Slot} (hI : I M1 M2) (hP1 : va_P D classes (gws K G1 ad1 M1) H) (hP2 : va_P D classes (gws K G2 ad2 M2) H) (hS : va_S (fun q : Nat => s.heap.size ≤ q) s.heap H locs) (hl : lv_has ls 4 [(0, .ref b), (1, .ref (ad1 0)), (2, .ref (ad2 0)), (3, .int (nI k))]) : W p l e room_1 s m #[Value.ref b] below meth c H locs 112 15807 Q (F0 m 552 ls []) := by
  have hx := S.1
  have hb := S.2.1
  have ht := S.2.2.2.2
  have hbA : ¬ (fun q : Nat => s.heap.size ≤ q) b := Nat.not_le.mpr hbl
  obtain ⟨r, N1, N2, e1, e2, hI2⟩ := op (xs (nI k + 1).toNatClampNeg) (xs (nI k + 2).toNatClampNeg) M1 M2 hI
  refine lv_aload_n hx hb dL_law_552 rfl (lv_at hl 1 rfl) ?_
  refine lv_aload_n hx hb dL_law_553 rfl (lv_at hl 0 rfl) ?_
  refine lv_iload_n hx hb dL_law_554 rfl (lv_at hl 3 rfl) ?_
  refine lv_iconst (v := 1) hx hb dL_law_555 (by decide) ?_
  refine lv_iadd hx hb dL_law_556 ?_
  refine va_sld hx hb hX hbl hbA hS (sv1 hk hL) dL_law_557 ?_
  refine lv_aload_n hx hb dL_law_558 rfl (lv_at hl 0 rfl) ?_
  refine lv_iload_n hx hb dL_law_559 rfl (lv_at hl 3 rfl) ?_
  refine lv_iconst (v := 2) hx hb dL_law_560 (by decide) ?_
  refine lv_iadd hx hb dL_law_561 ?_
  refine va_sld hx hb hX hbl hbA hS (sv2 hk hL) dL_law_562 ?_
  refine q_call1 (As := [.int (xs (nI k + 1).toNatClampNeg), .int (xs (nI k + 2).toNatClampNeg)]) (rest := []) S hK hE hT hP1 hP2 hS (cw_L_58 ht ⟨Nat.le_of_ble_eq_true rfl, Nat.le_of_ble_eq_true rfl⟩) rfl hl.1 rfl (Nat.le_of_ble_eq_true rfl) dL_law_563 ⟨Nat.le_of_ble_eq_true rfl, Nat.le_of_ble_eq_true rfl⟩ (c_X9_why hT.g1 rfl e1) (fun H locs hP1 hP2 hS => ?_)
  refine lv_aload_n hx hb dL_law_566 rfl (lv_at hl 2 rfl) ?_
  refine lv_aload_n hx hb dL_law_567 rfl (lv_at hl 0 rfl) ?_
  refine lv_iload_n hx hb dL_law_568 rfl (lv_at hl 3 rfl) ?_
  refine lv_iconst (v := 1) hx hb dL_law_569 (by decide) ?_
  refine lv_iadd hx hb dL_law_570 ?_
  refine va_sld hx hb hX hbl hbA hS (sv1 hk hL) dL_law_571 ?_
  refine lv_aload_n hx hb dL_law_572 rfl (lv_at hl 0 rfl) ?_
  refine lv_iload_n hx hb dL_law_573 rfl (lv_at hl 3 rfl) ?_
  refine lv_iconst (v := 2) hx hb dL_law_574 (by decide) ?_
  refine lv_iadd hx hb dL_law_575 ?_
  refine va_sld hx hb hX hbl hbA hS (sv2 hk hL) dL_law_576 ?_
  refine q_call2 (As := [.int (xs (nI k + 1).toNatClampNeg), .int (xs (nI k + 2).toNatClampNeg)]) (rest := [.int r]) S hK hT hP1 hP2 hS (cw_L_61 ht ⟨Nat.le_of_ble_eq_true rfl, Nat.le_of_ble_eq_true rfl⟩) rfl hl.1 rfl (Nat.le_of_ble_eq_true rfl) dL_law_577 ⟨Nat.le_of_ble_eq_true rfl, Nat.le_of_ble_eq_true rfl⟩ (c_X10_why hT.g2 rfl e2) (fun H locs hP1 hP2 hS => ?_)
  refine lv_icmp_eq (tgt := 1670) hx hb dL_law_580 (by decide) (fun _ => ?_) (fun z => absurd rfl z)
  exact next N1 N2 H locs ls hI2 hP1 hP2 hS hl
set_option maxHeartbeats 4000000 in
set_option maxRecDepth 100000 in
theorem lc_11 {p : Program} {l : Launch} {e : Env} {s : State} {m : MethodId} {below : List Frame} {meth : Method} {c : Code} {Q : State → Prop} {b L : Nat} {xs : Nat → Int32} {D : va_G} {K : Ks} {ad1 ad2 : Nat → Nat} {tC tA tP : Nat} {kK kV : Nat → Nat} {I : Mem → Mem → Prop} (S : CallFix p m c cL_law 4 s #[Value.ref b] Tw RL) (hK : va_K D classes (gty K) s) (hE : E1 (fun q : Nat => s.heap.size ≤ q) tC tA tP kK kV s) (hT : Two s ad1 ad2) (hX : va_X b L xs s s.heap) (hbl : b < s.heap.size) (hL : L ≤ 3072) {k : Nat} (hk : k + 6 ≤ L) (op : ∀ (x1 x2 : Int32) M1 M2, I M1 M2 → ∃ r M1' M2', f_X9_line 0 x1 x2 M1 = some (r, M1') ∧ f_X10_line 0 x1 x2 M2 = some (r, M2') ∧ I M1' M2') (next : ∀ (M1 M2 : Mem) (H : Heap) (locs : List Loc) (ls : Array Slot), I M1 M2 → va_P D classes (gws K G1 ad1 M1) H → va_P D classes (gws K G2 ad2 M2) H → va_S (fun q : Nat => s.heap.size ≤ q) s.heap H locs → lv_has ls 4 [(0, .ref b), (1, .ref (ad1 0)), (2, .ref (ad2 0)), (3, .int (nI k))] → W p l e room_1 s m #[Value.ref b] below meth c H locs 112 15807 Q (F0 m 1670 ls [])) {M1 M2 : Mem} {H : Heap} {locs : List Loc} {ls : Array Slot} (hI : I M1 M2) (hP1 : va_P D classes (gws K G1 ad1 M1) H) (hP2 : va_P D classes (gws K G2 ad2 M2) H) (hS : va_S (fun q : Nat => s.heap.size ≤ q) s.heap H locs) (hl : lv_has ls 4 [(0, .ref b), (1, .ref (ad1 0)), (2, .ref (ad2 0)), (3, .int (nI k))]) : W p l e room_1 s m #[Value.ref b] below meth c H locs 112 15807 Q (F0 m 585 ls []) := by
  have hx := S.1
  have hb := S.2.1
  have ht := S.2.2.2.2
  have hbA : ¬ (fun q : Nat => s.heap.size ≤ q) b := Nat.not_le.mpr hbl
  obtain ⟨r, N1, N2, e1, e2, hI2⟩ := op (xs (nI k + 1).toNatClampNeg) (xs (nI k + 2).toNatClampNeg) M1 M2 hI
  refine lv_aload_n hx hb dL_law_585 rfl (lv_at hl 1 rfl) ?_
  refine lv_aload_n hx hb dL_law_586 rfl (lv_at hl 0 rfl) ?_
  refine lv_iload_n hx hb dL_law_587 rfl (lv_at hl 3 rfl) ?_
  refine lv_iconst (v := 1) hx hb dL_law_588 (by decide) ?_
  refine lv_iadd hx hb dL_law_589 ?_
  refine va_sld hx hb hX hbl hbA hS (sv1 hk hL) dL_law_590 ?_
  refine lv_aload_n hx hb dL_law_591 rfl (lv_at hl 0 rfl) ?_
  refine lv_iload_n hx hb dL_law_592 rfl (lv_at hl 3 rfl) ?_
  refine lv_iconst (v := 2) hx hb dL_law_593 (by decide) ?_
  refine lv_iadd hx hb dL_law_594 ?_
  refine va_sld hx hb hX hbl hbA hS (sv2 hk hL) dL_law_595 ?_
  refine q_call1 (As := [.int (xs (nI k + 1).toNatClampNeg), .int (xs (nI k + 2).toNatClampNeg)]) (rest := []) S hK hE hT hP1 hP2 hS (cw_L_62 ht ⟨Nat.le_of_ble_eq_true rfl, Nat.le_of_ble_eq_true rfl⟩) rfl hl.1 rfl (Nat.le_of_ble_eq_true rfl) dL_law_596 ⟨Nat.le_of_ble_eq_true rfl, Nat.le_of_ble_eq_true rfl⟩ (c_X9_line hT.g1 rfl e1) (fun H locs hP1 hP2 hS => ?_)
  refine lv_aload_n hx hb dL_law_599 rfl (lv_at hl 2 rfl) ?_
  refine lv_aload_n hx hb dL_law_600 rfl (lv_at hl 0 rfl) ?_
  refine lv_iload_n hx hb dL_law_601 rfl (lv_at hl 3 rfl) ?_
  refine lv_iconst (v := 1) hx hb dL_law_602 (by decide) ?_
  refine lv_iadd hx hb dL_law_603 ?_
  refine va_sld hx hb hX hbl hbA hS (sv1 hk hL) dL_law_604 ?_
  refine lv_aload_n hx hb dL_law_605 rfl (lv_at hl 0 rfl) ?_
  refine lv_iload_n hx hb dL_law_606 rfl (lv_at hl 3 rfl) ?_
  refine lv_iconst (v := 2) hx hb dL_law_607 (by decide) ?_
  refine lv_iadd hx hb dL_law_608 ?_
  refine va_sld hx hb hX hbl hbA hS (sv2 hk hL) dL_law_609 ?_
  refine q_call2 (As := [.int (xs (nI k + 1).toNatClampNeg), .int (xs (nI k + 2).toNatClampNeg)]) (rest := [.int r]) S hK hT hP1 hP2 hS (cw_L_65 ht ⟨Nat.le_of_ble_eq_true rfl, Nat.le_of_ble_eq_true rfl⟩) rfl hl.1 rfl (Nat.le_of_ble_eq_true rfl) dL_law_610 ⟨Nat.le_of_ble_eq_true rfl, Nat.le_of_ble_eq_true rfl⟩ (c_X10_line hT.g2 rfl e2) (fun H locs hP1 hP2 hS => ?_)
  refine lv_icmp_eq (tgt := 1670) hx hb dL_law_613 (by decide) (fun _ => ?_) (fun z => absurd rfl z)
  exact next N1 N2 H locs ls hI2 hP1 hP2 hS hl
set_option maxHeartbeats 4000000 in
set_option maxRecDepth 100000 in
theorem lc_12 {p : Program} {l : Launch} {e : Env} {s : State} {m : MethodId} {below : List Frame} {meth : Method} {c : Code} {Q : State → Prop} {b L : Nat} {xs : Nat → Int32} {D : va_G} {K : Ks} {ad1 ad2 : Nat → Nat} {tC tA tP : Nat} {kK kV : Nat → Nat} {I : Mem → Mem → Prop} (S : CallFix p m c cL_law 4 s #[Value.ref b] Tw RL) (hK : va_K D classes (gty K) s) (hE : E1 (fun q : Nat => s.heap.size ≤ q) tC tA tP kK kV s) (hT : Two s ad1 ad2) (hX : va_X b L xs s s.heap) (hbl : b < s.heap.size) (hL : L ≤ 3072) {k : Nat} (hk : k + 6 ≤ L) (op : ∀ (x1 x2 x3 : Int32) M1 M2, I M1 M2 → ∃ r M1' M2', f_X9_run 0 x1 x2 x3 M1 = some (r, M1') ∧ f_X10_run 0 x1 x2 x3 M2 = some (r, M2') ∧ I M1' M2') (next : ∀ (M1 M2 : Mem) (H : Heap) (locs : List Loc) (ls : Array Slot), I M1 M2 → va_P D classes (gws K G1 ad1 M1) H → va_P D classes (gws K G2 ad2 M2) H → va_S (fun q : Nat => s.heap.size ≤ q) s.heap H locs → lv_has ls 4 [(0, .ref b), (1, .ref (ad1 0)), (2, .ref (ad2 0)), (3, .int (nI k))] → W p l e room_1 s m #[Value.ref b] below meth c H locs 112 15807 Q (F0 m 1670 ls [])) {M1 M2 : Mem} {H : Heap} {locs : List Loc} {ls : Array Slot} (hI : I M1 M2) (hP1 : va_P D classes (gws K G1 ad1 M1) H) (hP2 : va_P D classes (gws K G2 ad2 M2) H) (hS : va_S (fun q : Nat => s.heap.size ≤ q) s.heap H locs) (hl : lv_has ls 4 [(0, .ref b), (1, .ref (ad1 0)), (2, .ref (ad2 0)), (3, .int (nI k))]) : W p l e room_1 s m #[Value.ref b] below meth c H locs 112 15807 Q (F0 m 618 ls []) := by
  have hx := S.1
  have hb := S.2.1
  have ht := S.2.2.2.2
  have hbA : ¬ (fun q : Nat => s.heap.size ≤ q) b := Nat.not_le.mpr hbl
  obtain ⟨r, N1, N2, e1, e2, hI2⟩ := op (xs (nI k + 1).toNatClampNeg) (xs (nI k + 2).toNatClampNeg) (xs (nI k + 3).toNatClampNeg) M1 M2 hI
  refine lv_aload_n hx hb dL_law_618 rfl (lv_at hl 1 rfl) ?_
  refine lv_aload_n hx hb dL_law_619 rfl (lv_at hl 0 rfl) ?_
  refine lv_iload_n hx hb dL_law_620 rfl (lv_at hl 3 rfl) ?_
  refine lv_iconst (v := 1) hx hb dL_law_621 (by decide) ?_
  refine lv_iadd hx hb dL_law_622 ?_
  refine va_sld hx hb hX hbl hbA hS (sv1 hk hL) dL_law_623 ?_
  refine lv_aload_n hx hb dL_law_624 rfl (lv_at hl 0 rfl) ?_
  refine lv_iload_n hx hb dL_law_625 rfl (lv_at hl 3 rfl) ?_
  refine lv_iconst (v := 2) hx hb dL_law_626 (by decide) ?_
  refine lv_iadd hx hb dL_law_627 ?_
  refine va_sld hx hb hX hbl hbA hS (sv2 hk hL) dL_law_628 ?_
  refine lv_aload_n hx hb dL_law_629 rfl (lv_at hl 0 rfl) ?_
  refine lv_iload_n hx hb dL_law_630 rfl (lv_at hl 3 rfl) ?_
  refine lv_iconst (v := 3) hx hb dL_law_631 (by decide) ?_
  refine lv_iadd hx hb dL_law_632 ?_
  refine va_sld hx hb hX hbl hbA hS (sv3 hk hL) dL_law_633 ?_
  refine q_call1 (As := [.int (xs (nI k + 1).toNatClampNeg), .int (xs (nI k + 2).toNatClampNeg), .int (xs (nI k + 3).toNatClampNeg)]) (rest := []) S hK hE hT hP1 hP2 hS (cw_L_66 ht ⟨Nat.le_of_ble_eq_true rfl, Nat.le_of_ble_eq_true rfl⟩) rfl hl.1 rfl (Nat.le_of_ble_eq_true rfl) dL_law_634 ⟨Nat.le_of_ble_eq_true rfl, Nat.le_of_ble_eq_true rfl⟩ (c_X9_run hT.g1 rfl e1) (fun H locs hP1 hP2 hS => ?_)
  refine lv_aload_n hx hb dL_law_637 rfl (lv_at hl 2 rfl) ?_
  refine lv_aload_n hx hb dL_law_638 rfl (lv_at hl 0 rfl) ?_
  refine lv_iload_n hx hb dL_law_639 rfl (lv_at hl 3 rfl) ?_
  refine lv_iconst (v := 1) hx hb dL_law_640 (by decide) ?_
  refine lv_iadd hx hb dL_law_641 ?_
  refine va_sld hx hb hX hbl hbA hS (sv1 hk hL) dL_law_642 ?_
  refine lv_aload_n hx hb dL_law_643 rfl (lv_at hl 0 rfl) ?_
  refine lv_iload_n hx hb dL_law_644 rfl (lv_at hl 3 rfl) ?_
  refine lv_iconst (v := 2) hx hb dL_law_645 (by decide) ?_
  refine lv_iadd hx hb dL_law_646 ?_
  refine va_sld hx hb hX hbl hbA hS (sv2 hk hL) dL_law_647 ?_
  refine lv_aload_n hx hb dL_law_648 rfl (lv_at hl 0 rfl) ?_
  refine lv_iload_n hx hb dL_law_649 rfl (lv_at hl 3 rfl) ?_
  refine lv_iconst (v := 3) hx hb dL_law_650 (by decide) ?_
  refine lv_iadd hx hb dL_law_651 ?_
  refine va_sld hx hb hX hbl hbA hS (sv3 hk hL) dL_law_652 ?_
  refine q_call2 (As := [.int (xs (nI k + 1).toNatClampNeg), .int (xs (nI k + 2).toNatClampNeg), .int (xs (nI k + 3).toNatClampNeg)]) (rest := [.int r]) S hK hT hP1 hP2 hS (cw_L_69 ht ⟨Nat.le_of_ble_eq_true rfl, Nat.le_of_ble_eq_true rfl⟩) rfl hl.1 rfl (Nat.le_of_ble_eq_true rfl) dL_law_653 ⟨Nat.le_of_ble_eq_true rfl, Nat.le_of_ble_eq_true rfl⟩ (c_X10_run hT.g2 rfl e2) (fun H locs hP1 hP2 hS => ?_)
  refine lv_icmp_eq (tgt := 1670) hx hb dL_law_656 (by decide) (fun _ => ?_) (fun z => absurd rfl z)
  exact next N1 N2 H locs ls hI2 hP1 hP2 hS hl
set_option maxHeartbeats 4000000 in
set_option maxRecDepth 100000 in
theorem lc_13 {p : Program} {l : Launch} {e : Env} {s : State} {m : MethodId} {below : List Frame} {meth : Method} {c : Code} {Q : State → Prop} {b L : Nat} {xs : Nat → Int32} {D : va_G} {K : Ks} {ad1 ad2 : Nat → Nat} {tC tA tP : Nat} {kK kV : Nat → Nat} {I : Mem → Mem → Prop} (S : CallFix p m c cL_law 4 s #[Value.ref b] Tw RL) (hK : va_K D classes (gty K) s) (hE : E1 (fun q : Nat => s.heap.size ≤ q) tC tA tP kK kV s) (hT : Two s ad1 ad2) (hX : va_X b L xs s s.heap) (hbl : b < s.heap.size) (hL : L ≤ 3072) {k : Nat} (hk : k + 6 ≤ L) (op : ∀ (x1 x2 : Int32) M1 M2, I M1 M2 → ∃ r M1' M2', f_X9_soon 0 x1 x2 M1 = some (r, M1') ∧ f_X10_soon 0 x1 x2 M2 = some (r, M2') ∧ I M1' M2') (next : ∀ (M1 M2 : Mem) (H : Heap) (locs : List Loc) (ls : Array Slot), I M1 M2 → va_P D classes (gws K G1 ad1 M1) H → va_P D classes (gws K G2 ad2 M2) H → va_S (fun q : Nat => s.heap.size ≤ q) s.heap H locs → lv_has ls 4 [(0, .ref b), (1, .ref (ad1 0)), (2, .ref (ad2 0)), (3, .int (nI k))] → W p l e room_1 s m #[Value.ref b] below meth c H locs 112 15807 Q (F0 m 1670 ls [])) {M1 M2 : Mem} {H : Heap} {locs : List Loc} {ls : Array Slot} (hI : I M1 M2) (hP1 : va_P D classes (gws K G1 ad1 M1) H) (hP2 : va_P D classes (gws K G2 ad2 M2) H) (hS : va_S (fun q : Nat => s.heap.size ≤ q) s.heap H locs) (hl : lv_has ls 4 [(0, .ref b), (1, .ref (ad1 0)), (2, .ref (ad2 0)), (3, .int (nI k))]) : W p l e room_1 s m #[Value.ref b] below meth c H locs 112 15807 Q (F0 m 661 ls []) := by
  have hx := S.1
  have hb := S.2.1
  have ht := S.2.2.2.2
  have hbA : ¬ (fun q : Nat => s.heap.size ≤ q) b := Nat.not_le.mpr hbl
  obtain ⟨r, N1, N2, e1, e2, hI2⟩ := op (xs (nI k + 1).toNatClampNeg) (xs (nI k + 2).toNatClampNeg) M1 M2 hI
  refine lv_aload_n hx hb dL_law_661 rfl (lv_at hl 1 rfl) ?_
  refine lv_aload_n hx hb dL_law_662 rfl (lv_at hl 0 rfl) ?_
  refine lv_iload_n hx hb dL_law_663 rfl (lv_at hl 3 rfl) ?_
  refine lv_iconst (v := 1) hx hb dL_law_664 (by decide) ?_
  refine lv_iadd hx hb dL_law_665 ?_
  refine va_sld hx hb hX hbl hbA hS (sv1 hk hL) dL_law_666 ?_
  refine lv_aload_n hx hb dL_law_667 rfl (lv_at hl 0 rfl) ?_
  refine lv_iload_n hx hb dL_law_668 rfl (lv_at hl 3 rfl) ?_
  refine lv_iconst (v := 2) hx hb dL_law_669 (by decide) ?_
  refine lv_iadd hx hb dL_law_670 ?_
  refine va_sld hx hb hX hbl hbA hS (sv2 hk hL) dL_law_671 ?_
  refine q_call1 (As := [.int (xs (nI k + 1).toNatClampNeg), .int (xs (nI k + 2).toNatClampNeg)]) (rest := []) S hK hE hT hP1 hP2 hS (cw_L_70 ht ⟨Nat.le_of_ble_eq_true rfl, Nat.le_of_ble_eq_true rfl⟩) rfl hl.1 rfl (Nat.le_of_ble_eq_true rfl) dL_law_672 ⟨Nat.le_of_ble_eq_true rfl, Nat.le_of_ble_eq_true rfl⟩ (c_X9_soon hT.g1 rfl e1) (fun H locs hP1 hP2 hS => ?_)
  refine lv_aload_n hx hb dL_law_675 rfl (lv_at hl 2 rfl) ?_
  refine lv_aload_n hx hb dL_law_676 rfl (lv_at hl 0 rfl) ?_
  refine lv_iload_n hx hb dL_law_677 rfl (lv_at hl 3 rfl) ?_
  refine lv_iconst (v := 1) hx hb dL_law_678 (by decide) ?_
  refine lv_iadd hx hb dL_law_679 ?_
  refine va_sld hx hb hX hbl hbA hS (sv1 hk hL) dL_law_680 ?_
  refine lv_aload_n hx hb dL_law_681 rfl (lv_at hl 0 rfl) ?_
  refine lv_iload_n hx hb dL_law_682 rfl (lv_at hl 3 rfl) ?_
  refine lv_iconst (v := 2) hx hb dL_law_683 (by decide) ?_
  refine lv_iadd hx hb dL_law_684 ?_
  refine va_sld hx hb hX hbl hbA hS (sv2 hk hL) dL_law_685 ?_
  refine q_call2 (As := [.int (xs (nI k + 1).toNatClampNeg), .int (xs (nI k + 2).toNatClampNeg)]) (rest := [.int r]) S hK hT hP1 hP2 hS (cw_L_73 ht ⟨Nat.le_of_ble_eq_true rfl, Nat.le_of_ble_eq_true rfl⟩) rfl hl.1 rfl (Nat.le_of_ble_eq_true rfl) dL_law_686 ⟨Nat.le_of_ble_eq_true rfl, Nat.le_of_ble_eq_true rfl⟩ (c_X10_soon hT.g2 rfl e2) (fun H locs hP1 hP2 hS => ?_)
  refine lv_icmp_eq (tgt := 1670) hx hb dL_law_689 (by decide) (fun _ => ?_) (fun z => absurd rfl z)
  exact next N1 N2 H locs ls hI2 hP1 hP2 hS hl
set_option maxHeartbeats 4000000 in
set_option maxRecDepth 100000 in
theorem lc_14 {p : Program} {l : Launch} {e : Env} {s : State} {m : MethodId} {below : List Frame} {meth : Method} {c : Code} {Q : State → Prop} {b L : Nat} {xs : Nat → Int32} {D : va_G} {K : Ks} {ad1 ad2 : Nat → Nat} {tC tA tP : Nat} {kK kV : Nat → Nat} {I : Mem → Mem → Prop} (S : CallFix p m c cL_law 4 s #[Value.ref b] Tw RL) (hK : va_K D classes (gty K) s) (hE : E1 (fun q : Nat => s.heap.size ≤ q) tC tA tP kK kV s) (hT : Two s ad1 ad2) (hX : va_X b L xs s s.heap) (hbl : b < s.heap.size) (hL : L ≤ 3072) {k : Nat} (hk : k + 6 ≤ L) (op : ∀ M1 M2, I M1 M2 → ∃ r M1' M2', f_X9_even 0  M1 = some (r, M1') ∧ f_X10_even 0  M2 = some (r, M2') ∧ I M1' M2') (next : ∀ (M1 M2 : Mem) (H : Heap) (locs : List Loc) (ls : Array Slot), I M1 M2 → va_P D classes (gws K G1 ad1 M1) H → va_P D classes (gws K G2 ad2 M2) H → va_S (fun q : Nat => s.heap.size ≤ q) s.heap H locs → lv_has ls 4 [(0, .ref b), (1, .ref (ad1 0)), (2, .ref (ad2 0)), (3, .int (nI k))] → W p l e room_1 s m #[Value.ref b] below meth c H locs 112 15807 Q (F0 m 1670 ls [])) {M1 M2 : Mem} {H : Heap} {locs : List Loc} {ls : Array Slot} (hI : I M1 M2) (hP1 : va_P D classes (gws K G1 ad1 M1) H) (hP2 : va_P D classes (gws K G2 ad2 M2) H) (hS : va_S (fun q : Nat => s.heap.size ≤ q) s.heap H locs) (hl : lv_has ls 4 [(0, .ref b), (1, .ref (ad1 0)), (2, .ref (ad2 0)), (3, .int (nI k))]) : W p l e room_1 s m #[Value.ref b] below meth c H locs 112 15807 Q (F0 m 694 ls []) := by
  have hx := S.1
  have hb := S.2.1
  have ht := S.2.2.2.2
  have hbA : ¬ (fun q : Nat => s.heap.size ≤ q) b := Nat.not_le.mpr hbl
  obtain ⟨r, N1, N2, e1, e2, hI2⟩ := op  M1 M2 hI
  refine lv_aload_n hx hb dL_law_694 rfl (lv_at hl 1 rfl) ?_
  refine q_call1 (As := []) (rest := []) S hK hE hT hP1 hP2 hS (cw_L_74 ht ⟨Nat.le_of_ble_eq_true rfl, Nat.le_of_ble_eq_true rfl⟩) rfl hl.1 rfl (Nat.le_of_ble_eq_true rfl) dL_law_695 ⟨Nat.le_of_ble_eq_true rfl, Nat.le_of_ble_eq_true rfl⟩ (c_X9_even hT.g1 rfl e1) (fun H locs hP1 hP2 hS => ?_)
  refine lv_aload_n hx hb dL_law_698 rfl (lv_at hl 2 rfl) ?_
  refine q_call2 (As := []) (rest := [.int r]) S hK hT hP1 hP2 hS (cw_L_77 ht ⟨Nat.le_of_ble_eq_true rfl, Nat.le_of_ble_eq_true rfl⟩) rfl hl.1 rfl (Nat.le_of_ble_eq_true rfl) dL_law_699 ⟨Nat.le_of_ble_eq_true rfl, Nat.le_of_ble_eq_true rfl⟩ (c_X10_even hT.g2 rfl e2) (fun H locs hP1 hP2 hS => ?_)
  refine lv_icmp_eq (tgt := 1670) hx hb dL_law_702 (by decide) (fun _ => ?_) (fun z => absurd rfl z)
  exact next N1 N2 H locs ls hI2 hP1 hP2 hS hl
set_option maxHeartbeats 4000000 in
set_option maxRecDepth 100000 in
theorem lc_15 {p : Program} {l : Launch} {e : Env} {s : State} {m : MethodId} {below : List Frame} {meth : Method} {c : Code} {Q : State → Prop} {b L : Nat} {xs : Nat → Int32} {D : va_G} {K : Ks} {ad1 ad2 : Nat → Nat} {tC tA tP : Nat} {kK kV : Nat → Nat} {I : Mem → Mem → Prop} (S : CallFix p m c cL_law 4 s #[Value.ref b] Tw RL) (hK : va_K D classes (gty K) s) (hE : E1 (fun q : Nat => s.heap.size ≤ q) tC tA tP kK kV s) (hT : Two s ad1 ad2) (hX : va_X b L xs s s.heap) (hbl : b < s.heap.size) (hL : L ≤ 3072) {k : Nat} (hk : k + 6 ≤ L) (op : ∀ (x1 : Int32) M1 M2, I M1 M2 → ∃ r M1' M2', f_X9_digit 0 x1 M1 = some (r, M1') ∧ f_X10_digit 0 x1 M2 = some (r, M2') ∧ I M1' M2') (next : ∀ (M1 M2 : Mem) (H : Heap) (locs : List Loc) (ls : Array Slot), I M1 M2 → va_P D classes (gws K G1 ad1 M1) H → va_P D classes (gws K G2 ad2 M2) H → va_S (fun q : Nat => s.heap.size ≤ q) s.heap H locs → lv_has ls 4 [(0, .ref b), (1, .ref (ad1 0)), (2, .ref (ad2 0)), (3, .int (nI k))] → W p l e room_1 s m #[Value.ref b] below meth c H locs 112 15807 Q (F0 m 1670 ls [])) {M1 M2 : Mem} {H : Heap} {locs : List Loc} {ls : Array Slot} (hI : I M1 M2) (hP1 : va_P D classes (gws K G1 ad1 M1) H) (hP2 : va_P D classes (gws K G2 ad2 M2) H) (hS : va_S (fun q : Nat => s.heap.size ≤ q) s.heap H locs) (hl : lv_has ls 4 [(0, .ref b), (1, .ref (ad1 0)), (2, .ref (ad2 0)), (3, .int (nI k))]) : W p l e room_1 s m #[Value.ref b] below meth c H locs 112 15807 Q (F0 m 707 ls []) := by
  have hx := S.1
  have hb := S.2.1
  have ht := S.2.2.2.2
  have hbA : ¬ (fun q : Nat => s.heap.size ≤ q) b := Nat.not_le.mpr hbl
  obtain ⟨r, N1, N2, e1, e2, hI2⟩ := op (xs (nI k + 1).toNatClampNeg) M1 M2 hI
  refine lv_aload_n hx hb dL_law_707 rfl (lv_at hl 1 rfl) ?_
  refine lv_aload_n hx hb dL_law_708 rfl (lv_at hl 0 rfl) ?_
  refine lv_iload_n hx hb dL_law_709 rfl (lv_at hl 3 rfl) ?_
  refine lv_iconst (v := 1) hx hb dL_law_710 (by decide) ?_
  refine lv_iadd hx hb dL_law_711 ?_
  refine va_sld hx hb hX hbl hbA hS (sv1 hk hL) dL_law_712 ?_
  refine q_call1 (As := [.int (xs (nI k + 1).toNatClampNeg)]) (rest := []) S hK hE hT hP1 hP2 hS (cw_L_78 ht ⟨Nat.le_of_ble_eq_true rfl, Nat.le_of_ble_eq_true rfl⟩) rfl hl.1 rfl (Nat.le_of_ble_eq_true rfl) dL_law_713 ⟨Nat.le_of_ble_eq_true rfl, Nat.le_of_ble_eq_true rfl⟩ (c_X9_digit hT.g1 rfl e1) (fun H locs hP1 hP2 hS => ?_)
  refine lv_aload_n hx hb dL_law_716 rfl (lv_at hl 2 rfl) ?_
  refine lv_aload_n hx hb dL_law_717 rfl (lv_at hl 0 rfl) ?_
  refine lv_iload_n hx hb dL_law_718 rfl (lv_at hl 3 rfl) ?_
  refine lv_iconst (v := 1) hx hb dL_law_719 (by decide) ?_
  refine lv_iadd hx hb dL_law_720 ?_
  refine va_sld hx hb hX hbl hbA hS (sv1 hk hL) dL_law_721 ?_
  refine q_call2 (As := [.int (xs (nI k + 1).toNatClampNeg)]) (rest := [.int r]) S hK hT hP1 hP2 hS (cw_L_81 ht ⟨Nat.le_of_ble_eq_true rfl, Nat.le_of_ble_eq_true rfl⟩) rfl hl.1 rfl (Nat.le_of_ble_eq_true rfl) dL_law_722 ⟨Nat.le_of_ble_eq_true rfl, Nat.le_of_ble_eq_true rfl⟩ (c_X10_digit hT.g2 rfl e2) (fun H locs hP1 hP2 hS => ?_)
  refine lv_icmp_eq (tgt := 1670) hx hb dL_law_725 (by decide) (fun _ => ?_) (fun z => absurd rfl z)
  exact next N1 N2 H locs ls hI2 hP1 hP2 hS hl
set_option maxHeartbeats 4000000 in
set_option maxRecDepth 100000 in
theorem lc_16 {p : Program} {l : Launch} {e : Env} {s : State} {m : MethodId} {below : List Frame} {meth : Method} {c : Code} {Q : State → Prop} {b L : Nat} {xs : Nat → Int32} {D : va_G} {K : Ks} {ad1 ad2 : Nat → Nat} {tC tA tP : Nat} {kK kV : Nat → Nat} {I : Mem → Mem → Prop} (S : CallFix p m c cL_law 4 s #[Value.ref b] Tw RL) (hK : va_K D classes (gty K) s) (hE : E1 (fun q : Nat => s.heap.size ≤ q) tC tA tP kK kV s) (hT : Two s ad1 ad2) (hX : va_X b L xs s s.heap) (hbl : b < s.heap.size) (hL : L ≤ 3072) {k : Nat} (hk : k + 6 ≤ L) (op : ∀ M1 M2, I M1 M2 → ∃ r M1' M2', f_X9_odd 0  M1 = some (r, M1') ∧ f_X10_odd 0  M2 = some (r, M2') ∧ I M1' M2') (next : ∀ (M1 M2 : Mem) (H : Heap) (locs : List Loc) (ls : Array Slot), I M1 M2 → va_P D classes (gws K G1 ad1 M1) H → va_P D classes (gws K G2 ad2 M2) H → va_S (fun q : Nat => s.heap.size ≤ q) s.heap H locs → lv_has ls 4 [(0, .ref b), (1, .ref (ad1 0)), (2, .ref (ad2 0)), (3, .int (nI k))] → W p l e room_1 s m #[Value.ref b] below meth c H locs 112 15807 Q (F0 m 1670 ls [])) {M1 M2 : Mem} {H : Heap} {locs : List Loc} {ls : Array Slot} (hI : I M1 M2) (hP1 : va_P D classes (gws K G1 ad1 M1) H) (hP2 : va_P D classes (gws K G2 ad2 M2) H) (hS : va_S (fun q : Nat => s.heap.size ≤ q) s.heap H locs) (hl : lv_has ls 4 [(0, .ref b), (1, .ref (ad1 0)), (2, .ref (ad2 0)), (3, .int (nI k))]) : W p l e room_1 s m #[Value.ref b] below meth c H locs 112 15807 Q (F0 m 730 ls []) := by
  have hx := S.1
  have hb := S.2.1
  have ht := S.2.2.2.2
  have hbA : ¬ (fun q : Nat => s.heap.size ≤ q) b := Nat.not_le.mpr hbl
  obtain ⟨r, N1, N2, e1, e2, hI2⟩ := op  M1 M2 hI
  refine lv_aload_n hx hb dL_law_730 rfl (lv_at hl 1 rfl) ?_
  refine q_call1 (As := []) (rest := []) S hK hE hT hP1 hP2 hS (cw_L_82 ht ⟨Nat.le_of_ble_eq_true rfl, Nat.le_of_ble_eq_true rfl⟩) rfl hl.1 rfl (Nat.le_of_ble_eq_true rfl) dL_law_731 ⟨Nat.le_of_ble_eq_true rfl, Nat.le_of_ble_eq_true rfl⟩ (c_X9_odd hT.g1 rfl e1) (fun H locs hP1 hP2 hS => ?_)
  refine lv_aload_n hx hb dL_law_734 rfl (lv_at hl 2 rfl) ?_
  refine q_call2 (As := []) (rest := [.int r]) S hK hT hP1 hP2 hS (cw_L_85 ht ⟨Nat.le_of_ble_eq_true rfl, Nat.le_of_ble_eq_true rfl⟩) rfl hl.1 rfl (Nat.le_of_ble_eq_true rfl) dL_law_735 ⟨Nat.le_of_ble_eq_true rfl, Nat.le_of_ble_eq_true rfl⟩ (c_X10_odd hT.g2 rfl e2) (fun H locs hP1 hP2 hS => ?_)
  refine lv_icmp_eq (tgt := 1670) hx hb dL_law_738 (by decide) (fun _ => ?_) (fun z => absurd rfl z)
  exact next N1 N2 H locs ls hI2 hP1 hP2 hS hl
set_option maxHeartbeats 4000000 in
set_option maxRecDepth 100000 in
theorem lc_17 {p : Program} {l : Launch} {e : Env} {s : State} {m : MethodId} {below : List Frame} {meth : Method} {c : Code} {Q : State → Prop} {b L : Nat} {xs : Nat → Int32} {D : va_G} {K : Ks} {ad1 ad2 : Nat → Nat} {tC tA tP : Nat} {kK kV : Nat → Nat} {I : Mem → Mem → Prop} (S : CallFix p m c cL_law 4 s #[Value.ref b] Tw RL) (hK : va_K D classes (gty K) s) (hE : E1 (fun q : Nat => s.heap.size ≤ q) tC tA tP kK kV s) (hT : Two s ad1 ad2) (hX : va_X b L xs s s.heap) (hbl : b < s.heap.size) (hL : L ≤ 3072) {k : Nat} (hk : k + 6 ≤ L) (op : ∀ (x1 : Int32) M1 M2, I M1 M2 → ∃ r M1' M2', f_X9_choose 0 x1 M1 = some (r, M1') ∧ f_X10_choose 0 x1 M2 = some (r, M2') ∧ I M1' M2') (next : ∀ (M1 M2 : Mem) (H : Heap) (locs : List Loc) (ls : Array Slot), I M1 M2 → va_P D classes (gws K G1 ad1 M1) H → va_P D classes (gws K G2 ad2 M2) H → va_S (fun q : Nat => s.heap.size ≤ q) s.heap H locs → lv_has ls 4 [(0, .ref b), (1, .ref (ad1 0)), (2, .ref (ad2 0)), (3, .int (nI k))] → W p l e room_1 s m #[Value.ref b] below meth c H locs 112 15807 Q (F0 m 1670 ls [])) {M1 M2 : Mem} {H : Heap} {locs : List Loc} {ls : Array Slot} (hI : I M1 M2) (hP1 : va_P D classes (gws K G1 ad1 M1) H) (hP2 : va_P D classes (gws K G2 ad2 M2) H) (hS : va_S (fun q : Nat => s.heap.size ≤ q) s.heap H locs) (hl : lv_has ls 4 [(0, .ref b), (1, .ref (ad1 0)), (2, .ref (ad2 0)), (3, .int (nI k))]) : W p l e room_1 s m #[Value.ref b] below meth c H locs 112 15807 Q (F0 m 743 ls []) := by
  have hx := S.1
  have hb := S.2.1
  have ht := S.2.2.2.2
  have hbA : ¬ (fun q : Nat => s.heap.size ≤ q) b := Nat.not_le.mpr hbl
  obtain ⟨r, N1, N2, e1, e2, hI2⟩ := op (xs (nI k + 1).toNatClampNeg) M1 M2 hI
  refine lv_aload_n hx hb dL_law_743 rfl (lv_at hl 1 rfl) ?_
  refine lv_aload_n hx hb dL_law_744 rfl (lv_at hl 0 rfl) ?_
  refine lv_iload_n hx hb dL_law_745 rfl (lv_at hl 3 rfl) ?_
  refine lv_iconst (v := 1) hx hb dL_law_746 (by decide) ?_
  refine lv_iadd hx hb dL_law_747 ?_
  refine va_sld hx hb hX hbl hbA hS (sv1 hk hL) dL_law_748 ?_
  refine q_call1 (As := [.int (xs (nI k + 1).toNatClampNeg)]) (rest := []) S hK hE hT hP1 hP2 hS (cw_L_86 ht ⟨Nat.le_of_ble_eq_true rfl, Nat.le_of_ble_eq_true rfl⟩) rfl hl.1 rfl (Nat.le_of_ble_eq_true rfl) dL_law_749 ⟨Nat.le_of_ble_eq_true rfl, Nat.le_of_ble_eq_true rfl⟩ (c_X9_choose hT.g1 rfl e1) (fun H locs hP1 hP2 hS => ?_)
  refine lv_aload_n hx hb dL_law_752 rfl (lv_at hl 2 rfl) ?_
  refine lv_aload_n hx hb dL_law_753 rfl (lv_at hl 0 rfl) ?_
  refine lv_iload_n hx hb dL_law_754 rfl (lv_at hl 3 rfl) ?_
  refine lv_iconst (v := 1) hx hb dL_law_755 (by decide) ?_
  refine lv_iadd hx hb dL_law_756 ?_
  refine va_sld hx hb hX hbl hbA hS (sv1 hk hL) dL_law_757 ?_
  refine q_call2 (As := [.int (xs (nI k + 1).toNatClampNeg)]) (rest := [.int r]) S hK hT hP1 hP2 hS (cw_L_89 ht ⟨Nat.le_of_ble_eq_true rfl, Nat.le_of_ble_eq_true rfl⟩) rfl hl.1 rfl (Nat.le_of_ble_eq_true rfl) dL_law_758 ⟨Nat.le_of_ble_eq_true rfl, Nat.le_of_ble_eq_true rfl⟩ (c_X10_choose hT.g2 rfl e2) (fun H locs hP1 hP2 hS => ?_)
  refine lv_icmp_eq (tgt := 1670) hx hb dL_law_761 (by decide) (fun _ => ?_) (fun z => absurd rfl z)
  exact next N1 N2 H locs ls hI2 hP1 hP2 hS hl
set_option maxHeartbeats 4000000 in
set_option maxRecDepth 100000 in
theorem lc_18 {p : Program} {l : Launch} {e : Env} {s : State} {m : MethodId} {below : List Frame} {meth : Method} {c : Code} {Q : State → Prop} {b L : Nat} {xs : Nat → Int32} {D : va_G} {K : Ks} {ad1 ad2 : Nat → Nat} {tC tA tP : Nat} {kK kV : Nat → Nat} {I : Mem → Mem → Prop} (S : CallFix p m c cL_law 4 s #[Value.ref b] Tw RL) (hK : va_K D classes (gty K) s) (hE : E1 (fun q : Nat => s.heap.size ≤ q) tC tA tP kK kV s) (hT : Two s ad1 ad2) (hX : va_X b L xs s s.heap) (hbl : b < s.heap.size) (hL : L ≤ 3072) {k : Nat} (hk : k + 6 ≤ L) (op : ∀ (x1 x2 : Int32) M1 M2, I M1 M2 → ∃ r M1' M2', f_X9_story 0 x1 x2 M1 = some (r, M1') ∧ f_X10_story 0 x1 x2 M2 = some (r, M2') ∧ I M1' M2') (next : ∀ (M1 M2 : Mem) (H : Heap) (locs : List Loc) (ls : Array Slot), I M1 M2 → va_P D classes (gws K G1 ad1 M1) H → va_P D classes (gws K G2 ad2 M2) H → va_S (fun q : Nat => s.heap.size ≤ q) s.heap H locs → lv_has ls 4 [(0, .ref b), (1, .ref (ad1 0)), (2, .ref (ad2 0)), (3, .int (nI k))] → W p l e room_1 s m #[Value.ref b] below meth c H locs 112 15807 Q (F0 m 1670 ls [])) {M1 M2 : Mem} {H : Heap} {locs : List Loc} {ls : Array Slot} (hI : I M1 M2) (hP1 : va_P D classes (gws K G1 ad1 M1) H) (hP2 : va_P D classes (gws K G2 ad2 M2) H) (hS : va_S (fun q : Nat => s.heap.size ≤ q) s.heap H locs) (hl : lv_has ls 4 [(0, .ref b), (1, .ref (ad1 0)), (2, .ref (ad2 0)), (3, .int (nI k))]) : W p l e room_1 s m #[Value.ref b] below meth c H locs 112 15807 Q (F0 m 766 ls []) := by
  have hx := S.1
  have hb := S.2.1
  have ht := S.2.2.2.2
  have hbA : ¬ (fun q : Nat => s.heap.size ≤ q) b := Nat.not_le.mpr hbl
  obtain ⟨r, N1, N2, e1, e2, hI2⟩ := op (xs (nI k + 1).toNatClampNeg) (xs (nI k + 2).toNatClampNeg) M1 M2 hI
  refine lv_aload_n hx hb dL_law_766 rfl (lv_at hl 1 rfl) ?_
  refine lv_aload_n hx hb dL_law_767 rfl (lv_at hl 0 rfl) ?_
  refine lv_iload_n hx hb dL_law_768 rfl (lv_at hl 3 rfl) ?_
  refine lv_iconst (v := 1) hx hb dL_law_769 (by decide) ?_
  refine lv_iadd hx hb dL_law_770 ?_
  refine va_sld hx hb hX hbl hbA hS (sv1 hk hL) dL_law_771 ?_
  refine lv_aload_n hx hb dL_law_772 rfl (lv_at hl 0 rfl) ?_
  refine lv_iload_n hx hb dL_law_773 rfl (lv_at hl 3 rfl) ?_
  refine lv_iconst (v := 2) hx hb dL_law_774 (by decide) ?_
  refine lv_iadd hx hb dL_law_775 ?_
  refine va_sld hx hb hX hbl hbA hS (sv2 hk hL) dL_law_776 ?_
  refine q_call1 (As := [.int (xs (nI k + 1).toNatClampNeg), .int (xs (nI k + 2).toNatClampNeg)]) (rest := []) S hK hE hT hP1 hP2 hS (cw_L_90 ht ⟨Nat.le_of_ble_eq_true rfl, Nat.le_of_ble_eq_true rfl⟩) rfl hl.1 rfl (Nat.le_of_ble_eq_true rfl) dL_law_777 ⟨Nat.le_of_ble_eq_true rfl, Nat.le_of_ble_eq_true rfl⟩ (c_X9_story hT.g1 rfl e1) (fun H locs hP1 hP2 hS => ?_)
  refine lv_aload_n hx hb dL_law_780 rfl (lv_at hl 2 rfl) ?_
  refine lv_aload_n hx hb dL_law_781 rfl (lv_at hl 0 rfl) ?_
  refine lv_iload_n hx hb dL_law_782 rfl (lv_at hl 3 rfl) ?_
  refine lv_iconst (v := 1) hx hb dL_law_783 (by decide) ?_
  refine lv_iadd hx hb dL_law_784 ?_
  refine va_sld hx hb hX hbl hbA hS (sv1 hk hL) dL_law_785 ?_
  refine lv_aload_n hx hb dL_law_786 rfl (lv_at hl 0 rfl) ?_
  refine lv_iload_n hx hb dL_law_787 rfl (lv_at hl 3 rfl) ?_
  refine lv_iconst (v := 2) hx hb dL_law_788 (by decide) ?_
  refine lv_iadd hx hb dL_law_789 ?_
  refine va_sld hx hb hX hbl hbA hS (sv2 hk hL) dL_law_790 ?_
  refine q_call2 (As := [.int (xs (nI k + 1).toNatClampNeg), .int (xs (nI k + 2).toNatClampNeg)]) (rest := [.int r]) S hK hT hP1 hP2 hS (cw_L_93 ht ⟨Nat.le_of_ble_eq_true rfl, Nat.le_of_ble_eq_true rfl⟩) rfl hl.1 rfl (Nat.le_of_ble_eq_true rfl) dL_law_791 ⟨Nat.le_of_ble_eq_true rfl, Nat.le_of_ble_eq_true rfl⟩ (c_X10_story hT.g2 rfl e2) (fun H locs hP1 hP2 hS => ?_)
  refine lv_icmp_eq (tgt := 1670) hx hb dL_law_794 (by decide) (fun _ => ?_) (fun z => absurd rfl z)
  exact next N1 N2 H locs ls hI2 hP1 hP2 hS hl
set_option maxHeartbeats 4000000 in
set_option maxRecDepth 100000 in
theorem lc_19 {p : Program} {l : Launch} {e : Env} {s : State} {m : MethodId} {below : List Frame} {meth : Method} {c : Code} {Q : State → Prop} {b L : Nat} {xs : Nat → Int32} {D : va_G} {K : Ks} {ad1 ad2 : Nat → Nat} {tC tA tP : Nat} {kK kV : Nat → Nat} {I : Mem → Mem → Prop} (S : CallFix p m c cL_law 4 s #[Value.ref b] Tw RL) (hK : va_K D classes (gty K) s) (hE : E1 (fun q : Nat => s.heap.size ≤ q) tC tA tP kK kV s) (hT : Two s ad1 ad2) (hX : va_X b L xs s s.heap) (hbl : b < s.heap.size) (hL : L ≤ 3072) {k : Nat} (hk : k + 6 ≤ L) (op : ∀ M1 M2, I M1 M2 → ∃ r M1' M2', f_X9_clear 0  M1 = some (r, M1') ∧ f_X10_clear 0  M2 = some (r, M2') ∧ I M1' M2') (next : ∀ (M1 M2 : Mem) (H : Heap) (locs : List Loc) (ls : Array Slot), I M1 M2 → va_P D classes (gws K G1 ad1 M1) H → va_P D classes (gws K G2 ad2 M2) H → va_S (fun q : Nat => s.heap.size ≤ q) s.heap H locs → lv_has ls 4 [(0, .ref b), (1, .ref (ad1 0)), (2, .ref (ad2 0)), (3, .int (nI k))] → W p l e room_1 s m #[Value.ref b] below meth c H locs 112 15807 Q (F0 m 1670 ls [])) {M1 M2 : Mem} {H : Heap} {locs : List Loc} {ls : Array Slot} (hI : I M1 M2) (hP1 : va_P D classes (gws K G1 ad1 M1) H) (hP2 : va_P D classes (gws K G2 ad2 M2) H) (hS : va_S (fun q : Nat => s.heap.size ≤ q) s.heap H locs) (hl : lv_has ls 4 [(0, .ref b), (1, .ref (ad1 0)), (2, .ref (ad2 0)), (3, .int (nI k))]) : W p l e room_1 s m #[Value.ref b] below meth c H locs 112 15807 Q (F0 m 799 ls []) := by
  have hx := S.1
  have hb := S.2.1
  have ht := S.2.2.2.2
  have hbA : ¬ (fun q : Nat => s.heap.size ≤ q) b := Nat.not_le.mpr hbl
  obtain ⟨r, N1, N2, e1, e2, hI2⟩ := op  M1 M2 hI
  refine lv_aload_n hx hb dL_law_799 rfl (lv_at hl 1 rfl) ?_
  refine q_call1 (As := []) (rest := []) S hK hE hT hP1 hP2 hS (cw_L_94 ht ⟨Nat.le_of_ble_eq_true rfl, Nat.le_of_ble_eq_true rfl⟩) rfl hl.1 rfl (Nat.le_of_ble_eq_true rfl) dL_law_800 ⟨Nat.le_of_ble_eq_true rfl, Nat.le_of_ble_eq_true rfl⟩ (c_X9_clear hT.g1 rfl e1) (fun H locs hP1 hP2 hS => ?_)
  refine lv_aload_n hx hb dL_law_803 rfl (lv_at hl 2 rfl) ?_
  refine q_call2 (As := []) (rest := [.int r]) S hK hT hP1 hP2 hS (cw_L_97 ht ⟨Nat.le_of_ble_eq_true rfl, Nat.le_of_ble_eq_true rfl⟩) rfl hl.1 rfl (Nat.le_of_ble_eq_true rfl) dL_law_804 ⟨Nat.le_of_ble_eq_true rfl, Nat.le_of_ble_eq_true rfl⟩ (c_X10_clear hT.g2 rfl e2) (fun H locs hP1 hP2 hS => ?_)
  refine lv_icmp_eq (tgt := 1670) hx hb dL_law_807 (by decide) (fun _ => ?_) (fun z => absurd rfl z)
  exact next N1 N2 H locs ls hI2 hP1 hP2 hS hl
set_option maxHeartbeats 4000000 in
set_option maxRecDepth 100000 in
theorem lc_20 {p : Program} {l : Launch} {e : Env} {s : State} {m : MethodId} {below : List Frame} {meth : Method} {c : Code} {Q : State → Prop} {b L : Nat} {xs : Nat → Int32} {D : va_G} {K : Ks} {ad1 ad2 : Nat → Nat} {tC tA tP : Nat} {kK kV : Nat → Nat} {I : Mem → Mem → Prop} (S : CallFix p m c cL_law 4 s #[Value.ref b] Tw RL) (hK : va_K D classes (gty K) s) (hE : E1 (fun q : Nat => s.heap.size ≤ q) tC tA tP kK kV s) (hT : Two s ad1 ad2) (hX : va_X b L xs s s.heap) (hbl : b < s.heap.size) (hL : L ≤ 3072) {k : Nat} (hk : k + 6 ≤ L) (op : ∀ (x1 x2 x3 : Int32) M1 M2, I M1 M2 → ∃ r M1' M2', f_X9_road 0 x1 x2 x3 M1 = some (r, M1') ∧ f_X10_road 0 x1 x2 x3 M2 = some (r, M2') ∧ I M1' M2') (next : ∀ (M1 M2 : Mem) (H : Heap) (locs : List Loc) (ls : Array Slot), I M1 M2 → va_P D classes (gws K G1 ad1 M1) H → va_P D classes (gws K G2 ad2 M2) H → va_S (fun q : Nat => s.heap.size ≤ q) s.heap H locs → lv_has ls 4 [(0, .ref b), (1, .ref (ad1 0)), (2, .ref (ad2 0)), (3, .int (nI k))] → W p l e room_1 s m #[Value.ref b] below meth c H locs 112 15807 Q (F0 m 1670 ls [])) {M1 M2 : Mem} {H : Heap} {locs : List Loc} {ls : Array Slot} (hI : I M1 M2) (hP1 : va_P D classes (gws K G1 ad1 M1) H) (hP2 : va_P D classes (gws K G2 ad2 M2) H) (hS : va_S (fun q : Nat => s.heap.size ≤ q) s.heap H locs) (hl : lv_has ls 4 [(0, .ref b), (1, .ref (ad1 0)), (2, .ref (ad2 0)), (3, .int (nI k))]) : W p l e room_1 s m #[Value.ref b] below meth c H locs 112 15807 Q (F0 m 812 ls []) := by
  have hx := S.1
  have hb := S.2.1
  have ht := S.2.2.2.2
  have hbA : ¬ (fun q : Nat => s.heap.size ≤ q) b := Nat.not_le.mpr hbl
  obtain ⟨r, N1, N2, e1, e2, hI2⟩ := op (xs (nI k + 1).toNatClampNeg) (xs (nI k + 2).toNatClampNeg) (xs (nI k + 3).toNatClampNeg) M1 M2 hI
  refine lv_aload_n hx hb dL_law_812 rfl (lv_at hl 1 rfl) ?_
  refine lv_aload_n hx hb dL_law_813 rfl (lv_at hl 0 rfl) ?_
  refine lv_iload_n hx hb dL_law_814 rfl (lv_at hl 3 rfl) ?_
  refine lv_iconst (v := 1) hx hb dL_law_815 (by decide) ?_
  refine lv_iadd hx hb dL_law_816 ?_
  refine va_sld hx hb hX hbl hbA hS (sv1 hk hL) dL_law_817 ?_
  refine lv_aload_n hx hb dL_law_818 rfl (lv_at hl 0 rfl) ?_
  refine lv_iload_n hx hb dL_law_819 rfl (lv_at hl 3 rfl) ?_
  refine lv_iconst (v := 2) hx hb dL_law_820 (by decide) ?_
  refine lv_iadd hx hb dL_law_821 ?_
  refine va_sld hx hb hX hbl hbA hS (sv2 hk hL) dL_law_822 ?_
  refine lv_aload_n hx hb dL_law_823 rfl (lv_at hl 0 rfl) ?_
  refine lv_iload_n hx hb dL_law_824 rfl (lv_at hl 3 rfl) ?_
  refine lv_iconst (v := 3) hx hb dL_law_825 (by decide) ?_
  refine lv_iadd hx hb dL_law_826 ?_
  refine va_sld hx hb hX hbl hbA hS (sv3 hk hL) dL_law_827 ?_
  refine q_call1 (As := [.int (xs (nI k + 1).toNatClampNeg), .int (xs (nI k + 2).toNatClampNeg), .int (xs (nI k + 3).toNatClampNeg)]) (rest := []) S hK hE hT hP1 hP2 hS (cw_L_98 ht ⟨Nat.le_of_ble_eq_true rfl, Nat.le_of_ble_eq_true rfl⟩) rfl hl.1 rfl (Nat.le_of_ble_eq_true rfl) dL_law_828 ⟨Nat.le_of_ble_eq_true rfl, Nat.le_of_ble_eq_true rfl⟩ (c_X9_road hT.g1 rfl e1) (fun H locs hP1 hP2 hS => ?_)
  refine lv_aload_n hx hb dL_law_831 rfl (lv_at hl 2 rfl) ?_
  refine lv_aload_n hx hb dL_law_832 rfl (lv_at hl 0 rfl) ?_
  refine lv_iload_n hx hb dL_law_833 rfl (lv_at hl 3 rfl) ?_
  refine lv_iconst (v := 1) hx hb dL_law_834 (by decide) ?_
  refine lv_iadd hx hb dL_law_835 ?_
  refine va_sld hx hb hX hbl hbA hS (sv1 hk hL) dL_law_836 ?_
  refine lv_aload_n hx hb dL_law_837 rfl (lv_at hl 0 rfl) ?_
  refine lv_iload_n hx hb dL_law_838 rfl (lv_at hl 3 rfl) ?_
  refine lv_iconst (v := 2) hx hb dL_law_839 (by decide) ?_
  refine lv_iadd hx hb dL_law_840 ?_
  refine va_sld hx hb hX hbl hbA hS (sv2 hk hL) dL_law_841 ?_
  refine lv_aload_n hx hb dL_law_842 rfl (lv_at hl 0 rfl) ?_
  refine lv_iload_n hx hb dL_law_843 rfl (lv_at hl 3 rfl) ?_
  refine lv_iconst (v := 3) hx hb dL_law_844 (by decide) ?_
  refine lv_iadd hx hb dL_law_845 ?_
  refine va_sld hx hb hX hbl hbA hS (sv3 hk hL) dL_law_846 ?_
  refine q_call2 (As := [.int (xs (nI k + 1).toNatClampNeg), .int (xs (nI k + 2).toNatClampNeg), .int (xs (nI k + 3).toNatClampNeg)]) (rest := [.int r]) S hK hT hP1 hP2 hS (cw_L_101 ht ⟨Nat.le_of_ble_eq_true rfl, Nat.le_of_ble_eq_true rfl⟩) rfl hl.1 rfl (Nat.le_of_ble_eq_true rfl) dL_law_847 ⟨Nat.le_of_ble_eq_true rfl, Nat.le_of_ble_eq_true rfl⟩ (c_X10_road hT.g2 rfl e2) (fun H locs hP1 hP2 hS => ?_)
  refine lv_icmp_eq (tgt := 1670) hx hb dL_law_850 (by decide) (fun _ => ?_) (fun z => absurd rfl z)
  exact next N1 N2 H locs ls hI2 hP1 hP2 hS hl
set_option maxHeartbeats 4000000 in
set_option maxRecDepth 100000 in
theorem lc_21 {p : Program} {l : Launch} {e : Env} {s : State} {m : MethodId} {below : List Frame} {meth : Method} {c : Code} {Q : State → Prop} {b L : Nat} {xs : Nat → Int32} {D : va_G} {K : Ks} {ad1 ad2 : Nat → Nat} {tC tA tP : Nat} {kK kV : Nat → Nat} {I : Mem → Mem → Prop} (S : CallFix p m c cL_law 4 s #[Value.ref b] Tw RL) (hK : va_K D classes (gty K) s) (hE : E1 (fun q : Nat => s.heap.size ≤ q) tC tA tP kK kV s) (hT : Two s ad1 ad2) (hX : va_X b L xs s s.heap) (hbl : b < s.heap.size) (hL : L ≤ 3072) {k : Nat} (hk : k + 6 ≤ L) (op : ∀ (x1 x2 : Int32) M1 M2, I M1 M2 → ∃ r M1' M2', f_X9_far 0 x1 x2 M1 = some (r, M1') ∧ f_X10_far 0 x1 x2 M2 = some (r, M2') ∧ I M1' M2') (next : ∀ (M1 M2 : Mem) (H : Heap) (locs : List Loc) (ls : Array Slot), I M1 M2 → va_P D classes (gws K G1 ad1 M1) H → va_P D classes (gws K G2 ad2 M2) H → va_S (fun q : Nat => s.heap.size ≤ q) s.heap H locs → lv_has ls 4 [(0, .ref b), (1, .ref (ad1 0)), (2, .ref (ad2 0)), (3, .int (nI k))] → W p l e room_1 s m #[Value.ref b] below meth c H locs 112 15807 Q (F0 m 1670 ls [])) {M1 M2 : Mem} {H : Heap} {locs : List Loc} {ls : Array Slot} (hI : I M1 M2) (hP1 : va_P D classes (gws K G1 ad1 M1) H) (hP2 : va_P D classes (gws K G2 ad2 M2) H) (hS : va_S (fun q : Nat => s.heap.size ≤ q) s.heap H locs) (hl : lv_has ls 4 [(0, .ref b), (1, .ref (ad1 0)), (2, .ref (ad2 0)), (3, .int (nI k))]) : W p l e room_1 s m #[Value.ref b] below meth c H locs 112 15807 Q (F0 m 855 ls []) := by
  have hx := S.1
  have hb := S.2.1
  have ht := S.2.2.2.2
  have hbA : ¬ (fun q : Nat => s.heap.size ≤ q) b := Nat.not_le.mpr hbl
  obtain ⟨r, N1, N2, e1, e2, hI2⟩ := op (xs (nI k + 1).toNatClampNeg) (xs (nI k + 2).toNatClampNeg) M1 M2 hI
  refine lv_aload_n hx hb dL_law_855 rfl (lv_at hl 1 rfl) ?_
  refine lv_aload_n hx hb dL_law_856 rfl (lv_at hl 0 rfl) ?_
  refine lv_iload_n hx hb dL_law_857 rfl (lv_at hl 3 rfl) ?_
  refine lv_iconst (v := 1) hx hb dL_law_858 (by decide) ?_
  refine lv_iadd hx hb dL_law_859 ?_
  refine va_sld hx hb hX hbl hbA hS (sv1 hk hL) dL_law_860 ?_
  refine lv_aload_n hx hb dL_law_861 rfl (lv_at hl 0 rfl) ?_
  refine lv_iload_n hx hb dL_law_862 rfl (lv_at hl 3 rfl) ?_
  refine lv_iconst (v := 2) hx hb dL_law_863 (by decide) ?_
  refine lv_iadd hx hb dL_law_864 ?_
  refine va_sld hx hb hX hbl hbA hS (sv2 hk hL) dL_law_865 ?_
  refine q_call1 (As := [.int (xs (nI k + 1).toNatClampNeg), .int (xs (nI k + 2).toNatClampNeg)]) (rest := []) S hK hE hT hP1 hP2 hS (cw_L_102 ht ⟨Nat.le_of_ble_eq_true rfl, Nat.le_of_ble_eq_true rfl⟩) rfl hl.1 rfl (Nat.le_of_ble_eq_true rfl) dL_law_866 ⟨Nat.le_of_ble_eq_true rfl, Nat.le_of_ble_eq_true rfl⟩ (c_X9_far hT.g1 rfl e1) (fun H locs hP1 hP2 hS => ?_)
  refine lv_aload_n hx hb dL_law_869 rfl (lv_at hl 2 rfl) ?_
  refine lv_aload_n hx hb dL_law_870 rfl (lv_at hl 0 rfl) ?_
  refine lv_iload_n hx hb dL_law_871 rfl (lv_at hl 3 rfl) ?_
  refine lv_iconst (v := 1) hx hb dL_law_872 (by decide) ?_
  refine lv_iadd hx hb dL_law_873 ?_
  refine va_sld hx hb hX hbl hbA hS (sv1 hk hL) dL_law_874 ?_
  refine lv_aload_n hx hb dL_law_875 rfl (lv_at hl 0 rfl) ?_
  refine lv_iload_n hx hb dL_law_876 rfl (lv_at hl 3 rfl) ?_
  refine lv_iconst (v := 2) hx hb dL_law_877 (by decide) ?_
  refine lv_iadd hx hb dL_law_878 ?_
  refine va_sld hx hb hX hbl hbA hS (sv2 hk hL) dL_law_879 ?_
  refine q_call2 (As := [.int (xs (nI k + 1).toNatClampNeg), .int (xs (nI k + 2).toNatClampNeg)]) (rest := [.int r]) S hK hT hP1 hP2 hS (cw_L_105 ht ⟨Nat.le_of_ble_eq_true rfl, Nat.le_of_ble_eq_true rfl⟩) rfl hl.1 rfl (Nat.le_of_ble_eq_true rfl) dL_law_880 ⟨Nat.le_of_ble_eq_true rfl, Nat.le_of_ble_eq_true rfl⟩ (c_X10_far hT.g2 rfl e2) (fun H locs hP1 hP2 hS => ?_)
  refine lv_icmp_eq (tgt := 1670) hx hb dL_law_883 (by decide) (fun _ => ?_) (fun z => absurd rfl z)
  exact next N1 N2 H locs ls hI2 hP1 hP2 hS hl
set_option maxHeartbeats 4000000 in
set_option maxRecDepth 100000 in
theorem lc_22 {p : Program} {l : Launch} {e : Env} {s : State} {m : MethodId} {below : List Frame} {meth : Method} {c : Code} {Q : State → Prop} {b L : Nat} {xs : Nat → Int32} {D : va_G} {K : Ks} {ad1 ad2 : Nat → Nat} {tC tA tP : Nat} {kK kV : Nat → Nat} {I : Mem → Mem → Prop} (S : CallFix p m c cL_law 4 s #[Value.ref b] Tw RL) (hK : va_K D classes (gty K) s) (hE : E1 (fun q : Nat => s.heap.size ≤ q) tC tA tP kK kV s) (hT : Two s ad1 ad2) (hX : va_X b L xs s s.heap) (hbl : b < s.heap.size) (hL : L ≤ 3072) {k : Nat} (hk : k + 6 ≤ L) (op : ∀ (x1 x2 : Int32) M1 M2, I M1 M2 → ∃ r M1' M2', f_X9_diary 0 x1 x2 M1 = some (r, M1') ∧ f_X10_diary 0 x1 x2 M2 = some (r, M2') ∧ I M1' M2') (next : ∀ (M1 M2 : Mem) (H : Heap) (locs : List Loc) (ls : Array Slot), I M1 M2 → va_P D classes (gws K G1 ad1 M1) H → va_P D classes (gws K G2 ad2 M2) H → va_S (fun q : Nat => s.heap.size ≤ q) s.heap H locs → lv_has ls 4 [(0, .ref b), (1, .ref (ad1 0)), (2, .ref (ad2 0)), (3, .int (nI k))] → W p l e room_1 s m #[Value.ref b] below meth c H locs 112 15807 Q (F0 m 1670 ls [])) {M1 M2 : Mem} {H : Heap} {locs : List Loc} {ls : Array Slot} (hI : I M1 M2) (hP1 : va_P D classes (gws K G1 ad1 M1) H) (hP2 : va_P D classes (gws K G2 ad2 M2) H) (hS : va_S (fun q : Nat => s.heap.size ≤ q) s.heap H locs) (hl : lv_has ls 4 [(0, .ref b), (1, .ref (ad1 0)), (2, .ref (ad2 0)), (3, .int (nI k))]) : W p l e room_1 s m #[Value.ref b] below meth c H locs 112 15807 Q (F0 m 888 ls []) := by
  have hx := S.1
  have hb := S.2.1
  have ht := S.2.2.2.2
  have hbA : ¬ (fun q : Nat => s.heap.size ≤ q) b := Nat.not_le.mpr hbl
  obtain ⟨r, N1, N2, e1, e2, hI2⟩ := op (xs (nI k + 1).toNatClampNeg) (xs (nI k + 2).toNatClampNeg) M1 M2 hI
  refine lv_aload_n hx hb dL_law_888 rfl (lv_at hl 1 rfl) ?_
  refine lv_aload_n hx hb dL_law_889 rfl (lv_at hl 0 rfl) ?_
  refine lv_iload_n hx hb dL_law_890 rfl (lv_at hl 3 rfl) ?_
  refine lv_iconst (v := 1) hx hb dL_law_891 (by decide) ?_
  refine lv_iadd hx hb dL_law_892 ?_
  refine va_sld hx hb hX hbl hbA hS (sv1 hk hL) dL_law_893 ?_
  refine lv_aload_n hx hb dL_law_894 rfl (lv_at hl 0 rfl) ?_
  refine lv_iload_n hx hb dL_law_895 rfl (lv_at hl 3 rfl) ?_
  refine lv_iconst (v := 2) hx hb dL_law_896 (by decide) ?_
  refine lv_iadd hx hb dL_law_897 ?_
  refine va_sld hx hb hX hbl hbA hS (sv2 hk hL) dL_law_898 ?_
  refine q_call1 (As := [.int (xs (nI k + 1).toNatClampNeg), .int (xs (nI k + 2).toNatClampNeg)]) (rest := []) S hK hE hT hP1 hP2 hS (cw_L_106 ht ⟨Nat.le_of_ble_eq_true rfl, Nat.le_of_ble_eq_true rfl⟩) rfl hl.1 rfl (Nat.le_of_ble_eq_true rfl) dL_law_899 ⟨Nat.le_of_ble_eq_true rfl, Nat.le_of_ble_eq_true rfl⟩ (c_X9_diary hT.g1 rfl e1) (fun H locs hP1 hP2 hS => ?_)
  refine lv_aload_n hx hb dL_law_902 rfl (lv_at hl 2 rfl) ?_
  refine lv_aload_n hx hb dL_law_903 rfl (lv_at hl 0 rfl) ?_
  refine lv_iload_n hx hb dL_law_904 rfl (lv_at hl 3 rfl) ?_
  refine lv_iconst (v := 1) hx hb dL_law_905 (by decide) ?_
  refine lv_iadd hx hb dL_law_906 ?_
  refine va_sld hx hb hX hbl hbA hS (sv1 hk hL) dL_law_907 ?_
  refine lv_aload_n hx hb dL_law_908 rfl (lv_at hl 0 rfl) ?_
  refine lv_iload_n hx hb dL_law_909 rfl (lv_at hl 3 rfl) ?_
  refine lv_iconst (v := 2) hx hb dL_law_910 (by decide) ?_
  refine lv_iadd hx hb dL_law_911 ?_
  refine va_sld hx hb hX hbl hbA hS (sv2 hk hL) dL_law_912 ?_
  refine q_call2 (As := [.int (xs (nI k + 1).toNatClampNeg), .int (xs (nI k + 2).toNatClampNeg)]) (rest := [.int r]) S hK hT hP1 hP2 hS (cw_L_109 ht ⟨Nat.le_of_ble_eq_true rfl, Nat.le_of_ble_eq_true rfl⟩) rfl hl.1 rfl (Nat.le_of_ble_eq_true rfl) dL_law_913 ⟨Nat.le_of_ble_eq_true rfl, Nat.le_of_ble_eq_true rfl⟩ (c_X10_diary hT.g2 rfl e2) (fun H locs hP1 hP2 hS => ?_)
  refine lv_icmp_eq (tgt := 1670) hx hb dL_law_916 (by decide) (fun _ => ?_) (fun z => absurd rfl z)
  exact next N1 N2 H locs ls hI2 hP1 hP2 hS hl
set_option maxHeartbeats 4000000 in
set_option maxRecDepth 100000 in
theorem lc_23 {p : Program} {l : Launch} {e : Env} {s : State} {m : MethodId} {below : List Frame} {meth : Method} {c : Code} {Q : State → Prop} {b L : Nat} {xs : Nat → Int32} {D : va_G} {K : Ks} {ad1 ad2 : Nat → Nat} {tC tA tP : Nat} {kK kV : Nat → Nat} {I : Mem → Mem → Prop} (S : CallFix p m c cL_law 4 s #[Value.ref b] Tw RL) (hK : va_K D classes (gty K) s) (hE : E1 (fun q : Nat => s.heap.size ≤ q) tC tA tP kK kV s) (hT : Two s ad1 ad2) (hX : va_X b L xs s s.heap) (hbl : b < s.heap.size) (hL : L ≤ 3072) {k : Nat} (hk : k + 6 ≤ L) (op : ∀ (x1 x2 x3 : Int32) M1 M2, I M1 M2 → ∃ r M1' M2', f_X9_could 0 x1 x2 x3 M1 = some (r, M1') ∧ f_X10_could 0 x1 x2 x3 M2 = some (r, M2') ∧ I M1' M2') (next : ∀ (M1 M2 : Mem) (H : Heap) (locs : List Loc) (ls : Array Slot), I M1 M2 → va_P D classes (gws K G1 ad1 M1) H → va_P D classes (gws K G2 ad2 M2) H → va_S (fun q : Nat => s.heap.size ≤ q) s.heap H locs → lv_has ls 4 [(0, .ref b), (1, .ref (ad1 0)), (2, .ref (ad2 0)), (3, .int (nI k))] → W p l e room_1 s m #[Value.ref b] below meth c H locs 112 15807 Q (F0 m 1670 ls [])) {M1 M2 : Mem} {H : Heap} {locs : List Loc} {ls : Array Slot} (hI : I M1 M2) (hP1 : va_P D classes (gws K G1 ad1 M1) H) (hP2 : va_P D classes (gws K G2 ad2 M2) H) (hS : va_S (fun q : Nat => s.heap.size ≤ q) s.heap H locs) (hl : lv_has ls 4 [(0, .ref b), (1, .ref (ad1 0)), (2, .ref (ad2 0)), (3, .int (nI k))]) : W p l e room_1 s m #[Value.ref b] below meth c H locs 112 15807 Q (F0 m 921 ls []) := by
  have hx := S.1
  have hb := S.2.1
  have ht := S.2.2.2.2
  have hbA : ¬ (fun q : Nat => s.heap.size ≤ q) b := Nat.not_le.mpr hbl
  obtain ⟨r, N1, N2, e1, e2, hI2⟩ := op (xs (nI k + 1).toNatClampNeg) (xs (nI k + 2).toNatClampNeg) (xs (nI k + 3).toNatClampNeg) M1 M2 hI
  refine lv_aload_n hx hb dL_law_921 rfl (lv_at hl 1 rfl) ?_
  refine lv_aload_n hx hb dL_law_922 rfl (lv_at hl 0 rfl) ?_
  refine lv_iload_n hx hb dL_law_923 rfl (lv_at hl 3 rfl) ?_
  refine lv_iconst (v := 1) hx hb dL_law_924 (by decide) ?_
  refine lv_iadd hx hb dL_law_925 ?_
  refine va_sld hx hb hX hbl hbA hS (sv1 hk hL) dL_law_926 ?_
  refine lv_aload_n hx hb dL_law_927 rfl (lv_at hl 0 rfl) ?_
  refine lv_iload_n hx hb dL_law_928 rfl (lv_at hl 3 rfl) ?_
  refine lv_iconst (v := 2) hx hb dL_law_929 (by decide) ?_
  refine lv_iadd hx hb dL_law_930 ?_
  refine va_sld hx hb hX hbl hbA hS (sv2 hk hL) dL_law_931 ?_
  refine lv_aload_n hx hb dL_law_932 rfl (lv_at hl 0 rfl) ?_
  refine lv_iload_n hx hb dL_law_933 rfl (lv_at hl 3 rfl) ?_
  refine lv_iconst (v := 3) hx hb dL_law_934 (by decide) ?_
  refine lv_iadd hx hb dL_law_935 ?_
  refine va_sld hx hb hX hbl hbA hS (sv3 hk hL) dL_law_936 ?_
  refine q_call1 (As := [.int (xs (nI k + 1).toNatClampNeg), .int (xs (nI k + 2).toNatClampNeg), .int (xs (nI k + 3).toNatClampNeg)]) (rest := []) S hK hE hT hP1 hP2 hS (cw_L_110 ht ⟨Nat.le_of_ble_eq_true rfl, Nat.le_of_ble_eq_true rfl⟩) rfl hl.1 rfl (Nat.le_of_ble_eq_true rfl) dL_law_937 ⟨Nat.le_of_ble_eq_true rfl, Nat.le_of_ble_eq_true rfl⟩ (c_X9_could hT.g1 rfl e1) (fun H locs hP1 hP2 hS => ?_)
  refine lv_aload_n hx hb dL_law_940 rfl (lv_at hl 2 rfl) ?_
  refine lv_aload_n hx hb dL_law_941 rfl (lv_at hl 0 rfl) ?_
  refine lv_iload_n hx hb dL_law_942 rfl (lv_at hl 3 rfl) ?_
  refine lv_iconst (v := 1) hx hb dL_law_943 (by decide) ?_
  refine lv_iadd hx hb dL_law_944 ?_
  refine va_sld hx hb hX hbl hbA hS (sv1 hk hL) dL_law_945 ?_
  refine lv_aload_n hx hb dL_law_946 rfl (lv_at hl 0 rfl) ?_
  refine lv_iload_n hx hb dL_law_947 rfl (lv_at hl 3 rfl) ?_
  refine lv_iconst (v := 2) hx hb dL_law_948 (by decide) ?_
  refine lv_iadd hx hb dL_law_949 ?_
  refine va_sld hx hb hX hbl hbA hS (sv2 hk hL) dL_law_950 ?_
  refine lv_aload_n hx hb dL_law_951 rfl (lv_at hl 0 rfl) ?_
  refine lv_iload_n hx hb dL_law_952 rfl (lv_at hl 3 rfl) ?_
  refine lv_iconst (v := 3) hx hb dL_law_953 (by decide) ?_
  refine lv_iadd hx hb dL_law_954 ?_
  refine va_sld hx hb hX hbl hbA hS (sv3 hk hL) dL_law_955 ?_
  refine q_call2 (As := [.int (xs (nI k + 1).toNatClampNeg), .int (xs (nI k + 2).toNatClampNeg), .int (xs (nI k + 3).toNatClampNeg)]) (rest := [.int r]) S hK hT hP1 hP2 hS (cw_L_113 ht ⟨Nat.le_of_ble_eq_true rfl, Nat.le_of_ble_eq_true rfl⟩) rfl hl.1 rfl (Nat.le_of_ble_eq_true rfl) dL_law_956 ⟨Nat.le_of_ble_eq_true rfl, Nat.le_of_ble_eq_true rfl⟩ (c_X10_could hT.g2 rfl e2) (fun H locs hP1 hP2 hS => ?_)
  refine lv_icmp_eq (tgt := 1670) hx hb dL_law_959 (by decide) (fun _ => ?_) (fun z => absurd rfl z)
  exact next N1 N2 H locs ls hI2 hP1 hP2 hS hl
set_option maxHeartbeats 4000000 in
set_option maxRecDepth 100000 in
theorem lc_24 {p : Program} {l : Launch} {e : Env} {s : State} {m : MethodId} {below : List Frame} {meth : Method} {c : Code} {Q : State → Prop} {b L : Nat} {xs : Nat → Int32} {D : va_G} {K : Ks} {ad1 ad2 : Nat → Nat} {tC tA tP : Nat} {kK kV : Nat → Nat} {I : Mem → Mem → Prop} (S : CallFix p m c cL_law 4 s #[Value.ref b] Tw RL) (hK : va_K D classes (gty K) s) (hE : E1 (fun q : Nat => s.heap.size ≤ q) tC tA tP kK kV s) (hT : Two s ad1 ad2) (hX : va_X b L xs s s.heap) (hbl : b < s.heap.size) (hL : L ≤ 3072) {k : Nat} (hk : k + 6 ≤ L) (op : ∀ (x1 x2 x3 : Int32) M1 M2, I M1 M2 → ∃ r M1' M2', f_X9_leaner 0 x1 x2 x3 M1 = some (r, M1') ∧ f_X10_leaner 0 x1 x2 x3 M2 = some (r, M2') ∧ I M1' M2') (next : ∀ (M1 M2 : Mem) (H : Heap) (locs : List Loc) (ls : Array Slot), I M1 M2 → va_P D classes (gws K G1 ad1 M1) H → va_P D classes (gws K G2 ad2 M2) H → va_S (fun q : Nat => s.heap.size ≤ q) s.heap H locs → lv_has ls 4 [(0, .ref b), (1, .ref (ad1 0)), (2, .ref (ad2 0)), (3, .int (nI k))] → W p l e room_1 s m #[Value.ref b] below meth c H locs 112 15807 Q (F0 m 1670 ls [])) {M1 M2 : Mem} {H : Heap} {locs : List Loc} {ls : Array Slot} (hI : I M1 M2) (hP1 : va_P D classes (gws K G1 ad1 M1) H) (hP2 : va_P D classes (gws K G2 ad2 M2) H) (hS : va_S (fun q : Nat => s.heap.size ≤ q) s.heap H locs) (hl : lv_has ls 4 [(0, .ref b), (1, .ref (ad1 0)), (2, .ref (ad2 0)), (3, .int (nI k))]) : W p l e room_1 s m #[Value.ref b] below meth c H locs 112 15807 Q (F0 m 964 ls []) := by
  have hx := S.1
  have hb := S.2.1
  have ht := S.2.2.2.2
  have hbA : ¬ (fun q : Nat => s.heap.size ≤ q) b := Nat.not_le.mpr hbl
  obtain ⟨r, N1, N2, e1, e2, hI2⟩ := op (xs (nI k + 1).toNatClampNeg) (xs (nI k + 2).toNatClampNeg) (xs (nI k + 3).toNatClampNeg) M1 M2 hI
  refine lv_aload_n hx hb dL_law_964 rfl (lv_at hl 1 rfl) ?_
  refine lv_aload_n hx hb dL_law_965 rfl (lv_at hl 0 rfl) ?_
  refine lv_iload_n hx hb dL_law_966 rfl (lv_at hl 3 rfl) ?_
  refine lv_iconst (v := 1) hx hb dL_law_967 (by decide) ?_
  refine lv_iadd hx hb dL_law_968 ?_
  refine va_sld hx hb hX hbl hbA hS (sv1 hk hL) dL_law_969 ?_
  refine lv_aload_n hx hb dL_law_970 rfl (lv_at hl 0 rfl) ?_
  refine lv_iload_n hx hb dL_law_971 rfl (lv_at hl 3 rfl) ?_
  refine lv_iconst (v := 2) hx hb dL_law_972 (by decide) ?_
  refine lv_iadd hx hb dL_law_973 ?_
  refine va_sld hx hb hX hbl hbA hS (sv2 hk hL) dL_law_974 ?_
  refine lv_aload_n hx hb dL_law_975 rfl (lv_at hl 0 rfl) ?_
  refine lv_iload_n hx hb dL_law_976 rfl (lv_at hl 3 rfl) ?_
  refine lv_iconst (v := 3) hx hb dL_law_977 (by decide) ?_
  refine lv_iadd hx hb dL_law_978 ?_
  refine va_sld hx hb hX hbl hbA hS (sv3 hk hL) dL_law_979 ?_
  refine q_call1 (As := [.int (xs (nI k + 1).toNatClampNeg), .int (xs (nI k + 2).toNatClampNeg), .int (xs (nI k + 3).toNatClampNeg)]) (rest := []) S hK hE hT hP1 hP2 hS (cw_L_114 ht ⟨Nat.le_of_ble_eq_true rfl, Nat.le_of_ble_eq_true rfl⟩) rfl hl.1 rfl (Nat.le_of_ble_eq_true rfl) dL_law_980 ⟨Nat.le_of_ble_eq_true rfl, Nat.le_of_ble_eq_true rfl⟩ (c_X9_leaner hT.g1 rfl e1) (fun H locs hP1 hP2 hS => ?_)
  refine lv_aload_n hx hb dL_law_983 rfl (lv_at hl 2 rfl) ?_
  refine lv_aload_n hx hb dL_law_984 rfl (lv_at hl 0 rfl) ?_
  refine lv_iload_n hx hb dL_law_985 rfl (lv_at hl 3 rfl) ?_
  refine lv_iconst (v := 1) hx hb dL_law_986 (by decide) ?_
  refine lv_iadd hx hb dL_law_987 ?_
  refine va_sld hx hb hX hbl hbA hS (sv1 hk hL) dL_law_988 ?_
  refine lv_aload_n hx hb dL_law_989 rfl (lv_at hl 0 rfl) ?_
  refine lv_iload_n hx hb dL_law_990 rfl (lv_at hl 3 rfl) ?_
  refine lv_iconst (v := 2) hx hb dL_law_991 (by decide) ?_
  refine lv_iadd hx hb dL_law_992 ?_
  refine va_sld hx hb hX hbl hbA hS (sv2 hk hL) dL_law_993 ?_
  refine lv_aload_n hx hb dL_law_994 rfl (lv_at hl 0 rfl) ?_
  refine lv_iload_n hx hb dL_law_995 rfl (lv_at hl 3 rfl) ?_
  refine lv_iconst (v := 3) hx hb dL_law_996 (by decide) ?_
  refine lv_iadd hx hb dL_law_997 ?_
  refine va_sld hx hb hX hbl hbA hS (sv3 hk hL) dL_law_998 ?_
  refine q_call2 (As := [.int (xs (nI k + 1).toNatClampNeg), .int (xs (nI k + 2).toNatClampNeg), .int (xs (nI k + 3).toNatClampNeg)]) (rest := [.int r]) S hK hT hP1 hP2 hS (cw_L_117 ht ⟨Nat.le_of_ble_eq_true rfl, Nat.le_of_ble_eq_true rfl⟩) rfl hl.1 rfl (Nat.le_of_ble_eq_true rfl) dL_law_999 ⟨Nat.le_of_ble_eq_true rfl, Nat.le_of_ble_eq_true rfl⟩ (c_X10_leaner hT.g2 rfl e2) (fun H locs hP1 hP2 hS => ?_)
  refine lv_icmp_eq (tgt := 1670) hx hb dL_law_1002 (by decide) (fun _ => ?_) (fun z => absurd rfl z)
  exact next N1 N2 H locs ls hI2 hP1 hP2 hS hl
set_option maxHeartbeats 4000000 in
set_option maxRecDepth 100000 in
theorem lc_25 {p : Program} {l : Launch} {e : Env} {s : State} {m : MethodId} {below : List Frame} {meth : Method} {c : Code} {Q : State → Prop} {b L : Nat} {xs : Nat → Int32} {D : va_G} {K : Ks} {ad1 ad2 : Nat → Nat} {tC tA tP : Nat} {kK kV : Nat → Nat} {I : Mem → Mem → Prop} (S : CallFix p m c cL_law 4 s #[Value.ref b] Tw RL) (hK : va_K D classes (gty K) s) (hE : E1 (fun q : Nat => s.heap.size ≤ q) tC tA tP kK kV s) (hT : Two s ad1 ad2) (hX : va_X b L xs s s.heap) (hbl : b < s.heap.size) (hL : L ≤ 3072) {k : Nat} (hk : k + 6 ≤ L) (op : ∀ (x1 : Int32) M1 M2, I M1 M2 → ∃ r M1' M2', f_X9_falls 0 x1 M1 = some (r, M1') ∧ f_X10_falls 0 x1 M2 = some (r, M2') ∧ I M1' M2') (next : ∀ (M1 M2 : Mem) (H : Heap) (locs : List Loc) (ls : Array Slot), I M1 M2 → va_P D classes (gws K G1 ad1 M1) H → va_P D classes (gws K G2 ad2 M2) H → va_S (fun q : Nat => s.heap.size ≤ q) s.heap H locs → lv_has ls 4 [(0, .ref b), (1, .ref (ad1 0)), (2, .ref (ad2 0)), (3, .int (nI k))] → W p l e room_1 s m #[Value.ref b] below meth c H locs 112 15807 Q (F0 m 1670 ls [])) {M1 M2 : Mem} {H : Heap} {locs : List Loc} {ls : Array Slot} (hI : I M1 M2) (hP1 : va_P D classes (gws K G1 ad1 M1) H) (hP2 : va_P D classes (gws K G2 ad2 M2) H) (hS : va_S (fun q : Nat => s.heap.size ≤ q) s.heap H locs) (hl : lv_has ls 4 [(0, .ref b), (1, .ref (ad1 0)), (2, .ref (ad2 0)), (3, .int (nI k))]) : W p l e room_1 s m #[Value.ref b] below meth c H locs 112 15807 Q (F0 m 1007 ls []) := by
  have hx := S.1
  have hb := S.2.1
  have ht := S.2.2.2.2
  have hbA : ¬ (fun q : Nat => s.heap.size ≤ q) b := Nat.not_le.mpr hbl
  obtain ⟨r, N1, N2, e1, e2, hI2⟩ := op (xs (nI k + 1).toNatClampNeg) M1 M2 hI
  refine lv_aload_n hx hb dL_law_1007 rfl (lv_at hl 1 rfl) ?_
  refine lv_aload_n hx hb dL_law_1008 rfl (lv_at hl 0 rfl) ?_
  refine lv_iload_n hx hb dL_law_1009 rfl (lv_at hl 3 rfl) ?_
  refine lv_iconst (v := 1) hx hb dL_law_1010 (by decide) ?_
  refine lv_iadd hx hb dL_law_1011 ?_
  refine va_sld hx hb hX hbl hbA hS (sv1 hk hL) dL_law_1012 ?_
  refine q_call1 (As := [.int (xs (nI k + 1).toNatClampNeg)]) (rest := []) S hK hE hT hP1 hP2 hS (cw_L_118 ht ⟨Nat.le_of_ble_eq_true rfl, Nat.le_of_ble_eq_true rfl⟩) rfl hl.1 rfl (Nat.le_of_ble_eq_true rfl) dL_law_1013 ⟨Nat.le_of_ble_eq_true rfl, Nat.le_of_ble_eq_true rfl⟩ (c_X9_falls hT.g1 rfl e1) (fun H locs hP1 hP2 hS => ?_)
  refine lv_aload_n hx hb dL_law_1016 rfl (lv_at hl 2 rfl) ?_
  refine lv_aload_n hx hb dL_law_1017 rfl (lv_at hl 0 rfl) ?_
  refine lv_iload_n hx hb dL_law_1018 rfl (lv_at hl 3 rfl) ?_
  refine lv_iconst (v := 1) hx hb dL_law_1019 (by decide) ?_
  refine lv_iadd hx hb dL_law_1020 ?_
  refine va_sld hx hb hX hbl hbA hS (sv1 hk hL) dL_law_1021 ?_
  refine q_call2 (As := [.int (xs (nI k + 1).toNatClampNeg)]) (rest := [.int r]) S hK hT hP1 hP2 hS (cw_L_121 ht ⟨Nat.le_of_ble_eq_true rfl, Nat.le_of_ble_eq_true rfl⟩) rfl hl.1 rfl (Nat.le_of_ble_eq_true rfl) dL_law_1022 ⟨Nat.le_of_ble_eq_true rfl, Nat.le_of_ble_eq_true rfl⟩ (c_X10_falls hT.g2 rfl e2) (fun H locs hP1 hP2 hS => ?_)
  refine lv_icmp_eq (tgt := 1670) hx hb dL_law_1025 (by decide) (fun _ => ?_) (fun z => absurd rfl z)
  exact next N1 N2 H locs ls hI2 hP1 hP2 hS hl
set_option maxHeartbeats 4000000 in
set_option maxRecDepth 100000 in
theorem lc_26 {p : Program} {l : Launch} {e : Env} {s : State} {m : MethodId} {below : List Frame} {meth : Method} {c : Code} {Q : State → Prop} {b L : Nat} {xs : Nat → Int32} {D : va_G} {K : Ks} {ad1 ad2 : Nat → Nat} {tC tA tP : Nat} {kK kV : Nat → Nat} {I : Mem → Mem → Prop} (S : CallFix p m c cL_law 4 s #[Value.ref b] Tw RL) (hK : va_K D classes (gty K) s) (hE : E1 (fun q : Nat => s.heap.size ≤ q) tC tA tP kK kV s) (hT : Two s ad1 ad2) (hX : va_X b L xs s s.heap) (hbl : b < s.heap.size) (hL : L ≤ 3072) {k : Nat} (hk : k + 6 ≤ L) (op : ∀ (x1 : Int32) M1 M2, I M1 M2 → ∃ r M1' M2', f_X9_left 0 x1 M1 = some (r, M1') ∧ f_X10_left 0 x1 M2 = some (r, M2') ∧ I M1' M2') (next : ∀ (M1 M2 : Mem) (H : Heap) (locs : List Loc) (ls : Array Slot), I M1 M2 → va_P D classes (gws K G1 ad1 M1) H → va_P D classes (gws K G2 ad2 M2) H → va_S (fun q : Nat => s.heap.size ≤ q) s.heap H locs → lv_has ls 4 [(0, .ref b), (1, .ref (ad1 0)), (2, .ref (ad2 0)), (3, .int (nI k))] → W p l e room_1 s m #[Value.ref b] below meth c H locs 112 15807 Q (F0 m 1670 ls [])) {M1 M2 : Mem} {H : Heap} {locs : List Loc} {ls : Array Slot} (hI : I M1 M2) (hP1 : va_P D classes (gws K G1 ad1 M1) H) (hP2 : va_P D classes (gws K G2 ad2 M2) H) (hS : va_S (fun q : Nat => s.heap.size ≤ q) s.heap H locs) (hl : lv_has ls 4 [(0, .ref b), (1, .ref (ad1 0)), (2, .ref (ad2 0)), (3, .int (nI k))]) : W p l e room_1 s m #[Value.ref b] below meth c H locs 112 15807 Q (F0 m 1030 ls []) := by
  have hx := S.1
  have hb := S.2.1
  have ht := S.2.2.2.2
  have hbA : ¬ (fun q : Nat => s.heap.size ≤ q) b := Nat.not_le.mpr hbl
  obtain ⟨r, N1, N2, e1, e2, hI2⟩ := op (xs (nI k + 1).toNatClampNeg) M1 M2 hI
  refine lv_aload_n hx hb dL_law_1030 rfl (lv_at hl 1 rfl) ?_
  refine lv_aload_n hx hb dL_law_1031 rfl (lv_at hl 0 rfl) ?_
  refine lv_iload_n hx hb dL_law_1032 rfl (lv_at hl 3 rfl) ?_
  refine lv_iconst (v := 1) hx hb dL_law_1033 (by decide) ?_
  refine lv_iadd hx hb dL_law_1034 ?_
  refine va_sld hx hb hX hbl hbA hS (sv1 hk hL) dL_law_1035 ?_
  refine q_call1 (As := [.int (xs (nI k + 1).toNatClampNeg)]) (rest := []) S hK hE hT hP1 hP2 hS (cw_L_122 ht ⟨Nat.le_of_ble_eq_true rfl, Nat.le_of_ble_eq_true rfl⟩) rfl hl.1 rfl (Nat.le_of_ble_eq_true rfl) dL_law_1036 ⟨Nat.le_of_ble_eq_true rfl, Nat.le_of_ble_eq_true rfl⟩ (c_X9_left hT.g1 rfl e1) (fun H locs hP1 hP2 hS => ?_)
  refine lv_aload_n hx hb dL_law_1039 rfl (lv_at hl 2 rfl) ?_
  refine lv_aload_n hx hb dL_law_1040 rfl (lv_at hl 0 rfl) ?_
  refine lv_iload_n hx hb dL_law_1041 rfl (lv_at hl 3 rfl) ?_
  refine lv_iconst (v := 1) hx hb dL_law_1042 (by decide) ?_
  refine lv_iadd hx hb dL_law_1043 ?_
  refine va_sld hx hb hX hbl hbA hS (sv1 hk hL) dL_law_1044 ?_
  refine q_call2 (As := [.int (xs (nI k + 1).toNatClampNeg)]) (rest := [.int r]) S hK hT hP1 hP2 hS (cw_L_125 ht ⟨Nat.le_of_ble_eq_true rfl, Nat.le_of_ble_eq_true rfl⟩) rfl hl.1 rfl (Nat.le_of_ble_eq_true rfl) dL_law_1045 ⟨Nat.le_of_ble_eq_true rfl, Nat.le_of_ble_eq_true rfl⟩ (c_X10_left hT.g2 rfl e2) (fun H locs hP1 hP2 hS => ?_)
  refine lv_icmp_eq (tgt := 1670) hx hb dL_law_1048 (by decide) (fun _ => ?_) (fun z => absurd rfl z)
  exact next N1 N2 H locs ls hI2 hP1 hP2 hS hl
set_option maxHeartbeats 4000000 in
set_option maxRecDepth 100000 in
theorem lc_27 {p : Program} {l : Launch} {e : Env} {s : State} {m : MethodId} {below : List Frame} {meth : Method} {c : Code} {Q : State → Prop} {b L : Nat} {xs : Nat → Int32} {D : va_G} {K : Ks} {ad1 ad2 : Nat → Nat} {tC tA tP : Nat} {kK kV : Nat → Nat} {I : Mem → Mem → Prop} (S : CallFix p m c cL_law 4 s #[Value.ref b] Tw RL) (hK : va_K D classes (gty K) s) (hE : E1 (fun q : Nat => s.heap.size ≤ q) tC tA tP kK kV s) (hT : Two s ad1 ad2) (hX : va_X b L xs s s.heap) (hbl : b < s.heap.size) (hL : L ≤ 3072) {k : Nat} (hk : k + 6 ≤ L) (op : ∀ M1 M2, I M1 M2 → ∃ r M1' M2', f_X9_pillar 0  M1 = some (r, M1') ∧ f_X10_pillar 0  M2 = some (r, M2') ∧ I M1' M2') (next : ∀ (M1 M2 : Mem) (H : Heap) (locs : List Loc) (ls : Array Slot), I M1 M2 → va_P D classes (gws K G1 ad1 M1) H → va_P D classes (gws K G2 ad2 M2) H → va_S (fun q : Nat => s.heap.size ≤ q) s.heap H locs → lv_has ls 4 [(0, .ref b), (1, .ref (ad1 0)), (2, .ref (ad2 0)), (3, .int (nI k))] → W p l e room_1 s m #[Value.ref b] below meth c H locs 112 15807 Q (F0 m 1670 ls [])) {M1 M2 : Mem} {H : Heap} {locs : List Loc} {ls : Array Slot} (hI : I M1 M2) (hP1 : va_P D classes (gws K G1 ad1 M1) H) (hP2 : va_P D classes (gws K G2 ad2 M2) H) (hS : va_S (fun q : Nat => s.heap.size ≤ q) s.heap H locs) (hl : lv_has ls 4 [(0, .ref b), (1, .ref (ad1 0)), (2, .ref (ad2 0)), (3, .int (nI k))]) : W p l e room_1 s m #[Value.ref b] below meth c H locs 112 15807 Q (F0 m 1053 ls []) := by
  have hx := S.1
  have hb := S.2.1
  have ht := S.2.2.2.2
  have hbA : ¬ (fun q : Nat => s.heap.size ≤ q) b := Nat.not_le.mpr hbl
  obtain ⟨r, N1, N2, e1, e2, hI2⟩ := op  M1 M2 hI
  refine lv_aload_n hx hb dL_law_1053 rfl (lv_at hl 1 rfl) ?_
  refine q_call1 (As := []) (rest := []) S hK hE hT hP1 hP2 hS (cw_L_126 ht ⟨Nat.le_of_ble_eq_true rfl, Nat.le_of_ble_eq_true rfl⟩) rfl hl.1 rfl (Nat.le_of_ble_eq_true rfl) dL_law_1054 ⟨Nat.le_of_ble_eq_true rfl, Nat.le_of_ble_eq_true rfl⟩ (c_X9_pillar hT.g1 rfl e1) (fun H locs hP1 hP2 hS => ?_)
  refine lv_aload_n hx hb dL_law_1057 rfl (lv_at hl 2 rfl) ?_
  refine q_call2 (As := []) (rest := [.int r]) S hK hT hP1 hP2 hS (cw_L_129 ht ⟨Nat.le_of_ble_eq_true rfl, Nat.le_of_ble_eq_true rfl⟩) rfl hl.1 rfl (Nat.le_of_ble_eq_true rfl) dL_law_1058 ⟨Nat.le_of_ble_eq_true rfl, Nat.le_of_ble_eq_true rfl⟩ (c_X10_pillar hT.g2 rfl e2) (fun H locs hP1 hP2 hS => ?_)
  refine lv_icmp_eq (tgt := 1670) hx hb dL_law_1061 (by decide) (fun _ => ?_) (fun z => absurd rfl z)
  exact next N1 N2 H locs ls hI2 hP1 hP2 hS hl
set_option maxHeartbeats 4000000 in
set_option maxRecDepth 100000 in
theorem lc_28 {p : Program} {l : Launch} {e : Env} {s : State} {m : MethodId} {below : List Frame} {meth : Method} {c : Code} {Q : State → Prop} {b L : Nat} {xs : Nat → Int32} {D : va_G} {K : Ks} {ad1 ad2 : Nat → Nat} {tC tA tP : Nat} {kK kV : Nat → Nat} {I : Mem → Mem → Prop} (S : CallFix p m c cL_law 4 s #[Value.ref b] Tw RL) (hK : va_K D classes (gty K) s) (hE : E1 (fun q : Nat => s.heap.size ≤ q) tC tA tP kK kV s) (hT : Two s ad1 ad2) (hX : va_X b L xs s s.heap) (hbl : b < s.heap.size) (hL : L ≤ 3072) {k : Nat} (hk : k + 6 ≤ L) (op : ∀ (x1 : Int32) M1 M2, I M1 M2 → ∃ r M1' M2', f_X9_source 0 x1 M1 = some (r, M1') ∧ f_X10_source 0 x1 M2 = some (r, M2') ∧ I M1' M2') (next : ∀ (M1 M2 : Mem) (H : Heap) (locs : List Loc) (ls : Array Slot), I M1 M2 → va_P D classes (gws K G1 ad1 M1) H → va_P D classes (gws K G2 ad2 M2) H → va_S (fun q : Nat => s.heap.size ≤ q) s.heap H locs → lv_has ls 4 [(0, .ref b), (1, .ref (ad1 0)), (2, .ref (ad2 0)), (3, .int (nI k))] → W p l e room_1 s m #[Value.ref b] below meth c H locs 112 15807 Q (F0 m 1670 ls [])) {M1 M2 : Mem} {H : Heap} {locs : List Loc} {ls : Array Slot} (hI : I M1 M2) (hP1 : va_P D classes (gws K G1 ad1 M1) H) (hP2 : va_P D classes (gws K G2 ad2 M2) H) (hS : va_S (fun q : Nat => s.heap.size ≤ q) s.heap H locs) (hl : lv_has ls 4 [(0, .ref b), (1, .ref (ad1 0)), (2, .ref (ad2 0)), (3, .int (nI k))]) : W p l e room_1 s m #[Value.ref b] below meth c H locs 112 15807 Q (F0 m 1066 ls []) := by
  have hx := S.1
  have hb := S.2.1
  have ht := S.2.2.2.2
  have hbA : ¬ (fun q : Nat => s.heap.size ≤ q) b := Nat.not_le.mpr hbl
  obtain ⟨r, N1, N2, e1, e2, hI2⟩ := op (xs (nI k + 1).toNatClampNeg) M1 M2 hI
  refine lv_aload_n hx hb dL_law_1066 rfl (lv_at hl 1 rfl) ?_
  refine lv_aload_n hx hb dL_law_1067 rfl (lv_at hl 0 rfl) ?_
  refine lv_iload_n hx hb dL_law_1068 rfl (lv_at hl 3 rfl) ?_
  refine lv_iconst (v := 1) hx hb dL_law_1069 (by decide) ?_
  refine lv_iadd hx hb dL_law_1070 ?_
  refine va_sld hx hb hX hbl hbA hS (sv1 hk hL) dL_law_1071 ?_
  refine q_call1 (As := [.int (xs (nI k + 1).toNatClampNeg)]) (rest := []) S hK hE hT hP1 hP2 hS (cw_L_130 ht ⟨Nat.le_of_ble_eq_true rfl, Nat.le_of_ble_eq_true rfl⟩) rfl hl.1 rfl (Nat.le_of_ble_eq_true rfl) dL_law_1072 ⟨Nat.le_of_ble_eq_true rfl, Nat.le_of_ble_eq_true rfl⟩ (c_X9_source hT.g1 rfl e1) (fun H locs hP1 hP2 hS => ?_)
  refine lv_aload_n hx hb dL_law_1075 rfl (lv_at hl 2 rfl) ?_
  refine lv_aload_n hx hb dL_law_1076 rfl (lv_at hl 0 rfl) ?_
  refine lv_iload_n hx hb dL_law_1077 rfl (lv_at hl 3 rfl) ?_
  refine lv_iconst (v := 1) hx hb dL_law_1078 (by decide) ?_
  refine lv_iadd hx hb dL_law_1079 ?_
  refine va_sld hx hb hX hbl hbA hS (sv1 hk hL) dL_law_1080 ?_
  refine q_call2 (As := [.int (xs (nI k + 1).toNatClampNeg)]) (rest := [.int r]) S hK hT hP1 hP2 hS (cw_L_133 ht ⟨Nat.le_of_ble_eq_true rfl, Nat.le_of_ble_eq_true rfl⟩) rfl hl.1 rfl (Nat.le_of_ble_eq_true rfl) dL_law_1081 ⟨Nat.le_of_ble_eq_true rfl, Nat.le_of_ble_eq_true rfl⟩ (c_X10_source hT.g2 rfl e2) (fun H locs hP1 hP2 hS => ?_)
  refine lv_icmp_eq (tgt := 1670) hx hb dL_law_1084 (by decide) (fun _ => ?_) (fun z => absurd rfl z)
  exact next N1 N2 H locs ls hI2 hP1 hP2 hS hl
set_option maxHeartbeats 4000000 in
set_option maxRecDepth 100000 in
theorem lc_29 {p : Program} {l : Launch} {e : Env} {s : State} {m : MethodId} {below : List Frame} {meth : Method} {c : Code} {Q : State → Prop} {b L : Nat} {xs : Nat → Int32} {D : va_G} {K : Ks} {ad1 ad2 : Nat → Nat} {tC tA tP : Nat} {kK kV : Nat → Nat} {I : Mem → Mem → Prop} (S : CallFix p m c cL_law 4 s #[Value.ref b] Tw RL) (hK : va_K D classes (gty K) s) (hE : E1 (fun q : Nat => s.heap.size ≤ q) tC tA tP kK kV s) (hT : Two s ad1 ad2) (hX : va_X b L xs s s.heap) (hbl : b < s.heap.size) (hL : L ≤ 3072) {k : Nat} (hk : k + 6 ≤ L) (op : ∀ (x1 : Int32) M1 M2, I M1 M2 → ∃ r M1' M2', f_X9_next 0 x1 M1 = some (r, M1') ∧ f_X10_next 0 x1 M2 = some (r, M2') ∧ I M1' M2') (next : ∀ (M1 M2 : Mem) (H : Heap) (locs : List Loc) (ls : Array Slot), I M1 M2 → va_P D classes (gws K G1 ad1 M1) H → va_P D classes (gws K G2 ad2 M2) H → va_S (fun q : Nat => s.heap.size ≤ q) s.heap H locs → lv_has ls 4 [(0, .ref b), (1, .ref (ad1 0)), (2, .ref (ad2 0)), (3, .int (nI k))] → W p l e room_1 s m #[Value.ref b] below meth c H locs 112 15807 Q (F0 m 1670 ls [])) {M1 M2 : Mem} {H : Heap} {locs : List Loc} {ls : Array Slot} (hI : I M1 M2) (hP1 : va_P D classes (gws K G1 ad1 M1) H) (hP2 : va_P D classes (gws K G2 ad2 M2) H) (hS : va_S (fun q : Nat => s.heap.size ≤ q) s.heap H locs) (hl : lv_has ls 4 [(0, .ref b), (1, .ref (ad1 0)), (2, .ref (ad2 0)), (3, .int (nI k))]) : W p l e room_1 s m #[Value.ref b] below meth c H locs 112 15807 Q (F0 m 1089 ls []) := by
  have hx := S.1
  have hb := S.2.1
  have ht := S.2.2.2.2
  have hbA : ¬ (fun q : Nat => s.heap.size ≤ q) b := Nat.not_le.mpr hbl
  obtain ⟨r, N1, N2, e1, e2, hI2⟩ := op (xs (nI k + 1).toNatClampNeg) M1 M2 hI
  refine lv_aload_n hx hb dL_law_1089 rfl (lv_at hl 1 rfl) ?_
  refine lv_aload_n hx hb dL_law_1090 rfl (lv_at hl 0 rfl) ?_
  refine lv_iload_n hx hb dL_law_1091 rfl (lv_at hl 3 rfl) ?_
  refine lv_iconst (v := 1) hx hb dL_law_1092 (by decide) ?_
  refine lv_iadd hx hb dL_law_1093 ?_
  refine va_sld hx hb hX hbl hbA hS (sv1 hk hL) dL_law_1094 ?_
  refine q_call1 (As := [.int (xs (nI k + 1).toNatClampNeg)]) (rest := []) S hK hE hT hP1 hP2 hS (cw_L_134 ht ⟨Nat.le_of_ble_eq_true rfl, Nat.le_of_ble_eq_true rfl⟩) rfl hl.1 rfl (Nat.le_of_ble_eq_true rfl) dL_law_1095 ⟨Nat.le_of_ble_eq_true rfl, Nat.le_of_ble_eq_true rfl⟩ (c_X9_next hT.g1 rfl e1) (fun H locs hP1 hP2 hS => ?_)
  refine lv_aload_n hx hb dL_law_1098 rfl (lv_at hl 2 rfl) ?_
  refine lv_aload_n hx hb dL_law_1099 rfl (lv_at hl 0 rfl) ?_
  refine lv_iload_n hx hb dL_law_1100 rfl (lv_at hl 3 rfl) ?_
  refine lv_iconst (v := 1) hx hb dL_law_1101 (by decide) ?_
  refine lv_iadd hx hb dL_law_1102 ?_
  refine va_sld hx hb hX hbl hbA hS (sv1 hk hL) dL_law_1103 ?_
  refine q_call2 (As := [.int (xs (nI k + 1).toNatClampNeg)]) (rest := [.int r]) S hK hT hP1 hP2 hS (cw_L_137 ht ⟨Nat.le_of_ble_eq_true rfl, Nat.le_of_ble_eq_true rfl⟩) rfl hl.1 rfl (Nat.le_of_ble_eq_true rfl) dL_law_1104 ⟨Nat.le_of_ble_eq_true rfl, Nat.le_of_ble_eq_true rfl⟩ (c_X10_next hT.g2 rfl e2) (fun H locs hP1 hP2 hS => ?_)
  refine lv_icmp_eq (tgt := 1670) hx hb dL_law_1107 (by decide) (fun _ => ?_) (fun z => absurd rfl z)
  exact next N1 N2 H locs ls hI2 hP1 hP2 hS hl
set_option maxHeartbeats 4000000 in
set_option maxRecDepth 100000 in
theorem lc_30 {p : Program} {l : Launch} {e : Env} {s : State} {m : MethodId} {below : List Frame} {meth : Method} {c : Code} {Q : State → Prop} {b L : Nat} {xs : Nat → Int32} {D : va_G} {K : Ks} {ad1 ad2 : Nat → Nat} {tC tA tP : Nat} {kK kV : Nat → Nat} {I : Mem → Mem → Prop} (S : CallFix p m c cL_law 4 s #[Value.ref b] Tw RL) (hK : va_K D classes (gty K) s) (hE : E1 (fun q : Nat => s.heap.size ≤ q) tC tA tP kK kV s) (hT : Two s ad1 ad2) (hX : va_X b L xs s s.heap) (hbl : b < s.heap.size) (hL : L ≤ 3072) {k : Nat} (hk : k + 6 ≤ L) (op : ∀ (x1 x2 x3 : Int32) M1 M2, I M1 M2 → ∃ r M1' M2', f_X9_heard 0 x1 x2 x3 M1 = some (r, M1') ∧ f_X10_heard 0 x1 x2 x3 M2 = some (r, M2') ∧ I M1' M2') (next : ∀ (M1 M2 : Mem) (H : Heap) (locs : List Loc) (ls : Array Slot), I M1 M2 → va_P D classes (gws K G1 ad1 M1) H → va_P D classes (gws K G2 ad2 M2) H → va_S (fun q : Nat => s.heap.size ≤ q) s.heap H locs → lv_has ls 4 [(0, .ref b), (1, .ref (ad1 0)), (2, .ref (ad2 0)), (3, .int (nI k))] → W p l e room_1 s m #[Value.ref b] below meth c H locs 112 15807 Q (F0 m 1670 ls [])) {M1 M2 : Mem} {H : Heap} {locs : List Loc} {ls : Array Slot} (hI : I M1 M2) (hP1 : va_P D classes (gws K G1 ad1 M1) H) (hP2 : va_P D classes (gws K G2 ad2 M2) H) (hS : va_S (fun q : Nat => s.heap.size ≤ q) s.heap H locs) (hl : lv_has ls 4 [(0, .ref b), (1, .ref (ad1 0)), (2, .ref (ad2 0)), (3, .int (nI k))]) : W p l e room_1 s m #[Value.ref b] below meth c H locs 112 15807 Q (F0 m 1112 ls []) := by
  have hx := S.1
  have hb := S.2.1
  have ht := S.2.2.2.2
  have hbA : ¬ (fun q : Nat => s.heap.size ≤ q) b := Nat.not_le.mpr hbl
  obtain ⟨r, N1, N2, e1, e2, hI2⟩ := op (xs (nI k + 1).toNatClampNeg) (xs (nI k + 2).toNatClampNeg) (xs (nI k + 3).toNatClampNeg) M1 M2 hI
  refine lv_aload_n hx hb dL_law_1112 rfl (lv_at hl 1 rfl) ?_
  refine lv_aload_n hx hb dL_law_1113 rfl (lv_at hl 0 rfl) ?_
  refine lv_iload_n hx hb dL_law_1114 rfl (lv_at hl 3 rfl) ?_
  refine lv_iconst (v := 1) hx hb dL_law_1115 (by decide) ?_
  refine lv_iadd hx hb dL_law_1116 ?_
  refine va_sld hx hb hX hbl hbA hS (sv1 hk hL) dL_law_1117 ?_
  refine lv_aload_n hx hb dL_law_1118 rfl (lv_at hl 0 rfl) ?_
  refine lv_iload_n hx hb dL_law_1119 rfl (lv_at hl 3 rfl) ?_
  refine lv_iconst (v := 2) hx hb dL_law_1120 (by decide) ?_
  refine lv_iadd hx hb dL_law_1121 ?_
  refine va_sld hx hb hX hbl hbA hS (sv2 hk hL) dL_law_1122 ?_
  refine lv_aload_n hx hb dL_law_1123 rfl (lv_at hl 0 rfl) ?_
  refine lv_iload_n hx hb dL_law_1124 rfl (lv_at hl 3 rfl) ?_
  refine lv_iconst (v := 3) hx hb dL_law_1125 (by decide) ?_
  refine lv_iadd hx hb dL_law_1126 ?_
  refine va_sld hx hb hX hbl hbA hS (sv3 hk hL) dL_law_1127 ?_
  refine q_call1 (As := [.int (xs (nI k + 1).toNatClampNeg), .int (xs (nI k + 2).toNatClampNeg), .int (xs (nI k + 3).toNatClampNeg)]) (rest := []) S hK hE hT hP1 hP2 hS (cw_L_138 ht ⟨Nat.le_of_ble_eq_true rfl, Nat.le_of_ble_eq_true rfl⟩) rfl hl.1 rfl (Nat.le_of_ble_eq_true rfl) dL_law_1128 ⟨Nat.le_of_ble_eq_true rfl, Nat.le_of_ble_eq_true rfl⟩ (c_X9_heard hT.g1 rfl e1) (fun H locs hP1 hP2 hS => ?_)
  refine lv_aload_n hx hb dL_law_1131 rfl (lv_at hl 2 rfl) ?_
  refine lv_aload_n hx hb dL_law_1132 rfl (lv_at hl 0 rfl) ?_
  refine lv_iload_n hx hb dL_law_1133 rfl (lv_at hl 3 rfl) ?_
  refine lv_iconst (v := 1) hx hb dL_law_1134 (by decide) ?_
  refine lv_iadd hx hb dL_law_1135 ?_
  refine va_sld hx hb hX hbl hbA hS (sv1 hk hL) dL_law_1136 ?_
  refine lv_aload_n hx hb dL_law_1137 rfl (lv_at hl 0 rfl) ?_
  refine lv_iload_n hx hb dL_law_1138 rfl (lv_at hl 3 rfl) ?_
  refine lv_iconst (v := 2) hx hb dL_law_1139 (by decide) ?_
  refine lv_iadd hx hb dL_law_1140 ?_
  refine va_sld hx hb hX hbl hbA hS (sv2 hk hL) dL_law_1141 ?_
  refine lv_aload_n hx hb dL_law_1142 rfl (lv_at hl 0 rfl) ?_
  refine lv_iload_n hx hb dL_law_1143 rfl (lv_at hl 3 rfl) ?_
  refine lv_iconst (v := 3) hx hb dL_law_1144 (by decide) ?_
  refine lv_iadd hx hb dL_law_1145 ?_
  refine va_sld hx hb hX hbl hbA hS (sv3 hk hL) dL_law_1146 ?_
  refine q_call2 (As := [.int (xs (nI k + 1).toNatClampNeg), .int (xs (nI k + 2).toNatClampNeg), .int (xs (nI k + 3).toNatClampNeg)]) (rest := [.int r]) S hK hT hP1 hP2 hS (cw_L_141 ht ⟨Nat.le_of_ble_eq_true rfl, Nat.le_of_ble_eq_true rfl⟩) rfl hl.1 rfl (Nat.le_of_ble_eq_true rfl) dL_law_1147 ⟨Nat.le_of_ble_eq_true rfl, Nat.le_of_ble_eq_true rfl⟩ (c_X10_heard hT.g2 rfl e2) (fun H locs hP1 hP2 hS => ?_)
  refine lv_icmp_eq (tgt := 1670) hx hb dL_law_1150 (by decide) (fun _ => ?_) (fun z => absurd rfl z)
  exact next N1 N2 H locs ls hI2 hP1 hP2 hS hl
set_option maxHeartbeats 4000000 in
set_option maxRecDepth 100000 in
theorem lc_31 {p : Program} {l : Launch} {e : Env} {s : State} {m : MethodId} {below : List Frame} {meth : Method} {c : Code} {Q : State → Prop} {b L : Nat} {xs : Nat → Int32} {D : va_G} {K : Ks} {ad1 ad2 : Nat → Nat} {tC tA tP : Nat} {kK kV : Nat → Nat} {I : Mem → Mem → Prop} (S : CallFix p m c cL_law 4 s #[Value.ref b] Tw RL) (hK : va_K D classes (gty K) s) (hE : E1 (fun q : Nat => s.heap.size ≤ q) tC tA tP kK kV s) (hT : Two s ad1 ad2) (hX : va_X b L xs s s.heap) (hbl : b < s.heap.size) (hL : L ≤ 3072) {k : Nat} (hk : k + 6 ≤ L) (op : ∀ (x1 : Int32) M1 M2, I M1 M2 → ∃ r M1' M2', f_X9_seed 0 x1 M1 = some (r, M1') ∧ f_X10_seed 0 x1 M2 = some (r, M2') ∧ I M1' M2') (next : ∀ (M1 M2 : Mem) (H : Heap) (locs : List Loc) (ls : Array Slot), I M1 M2 → va_P D classes (gws K G1 ad1 M1) H → va_P D classes (gws K G2 ad2 M2) H → va_S (fun q : Nat => s.heap.size ≤ q) s.heap H locs → lv_has ls 4 [(0, .ref b), (1, .ref (ad1 0)), (2, .ref (ad2 0)), (3, .int (nI k))] → W p l e room_1 s m #[Value.ref b] below meth c H locs 112 15807 Q (F0 m 1670 ls [])) {M1 M2 : Mem} {H : Heap} {locs : List Loc} {ls : Array Slot} (hI : I M1 M2) (hP1 : va_P D classes (gws K G1 ad1 M1) H) (hP2 : va_P D classes (gws K G2 ad2 M2) H) (hS : va_S (fun q : Nat => s.heap.size ≤ q) s.heap H locs) (hl : lv_has ls 4 [(0, .ref b), (1, .ref (ad1 0)), (2, .ref (ad2 0)), (3, .int (nI k))]) : W p l e room_1 s m #[Value.ref b] below meth c H locs 112 15807 Q (F0 m 1155 ls []) := by
  have hx := S.1
  have hb := S.2.1
  have ht := S.2.2.2.2
  have hbA : ¬ (fun q : Nat => s.heap.size ≤ q) b := Nat.not_le.mpr hbl
  obtain ⟨r, N1, N2, e1, e2, hI2⟩ := op (xs (nI k + 1).toNatClampNeg) M1 M2 hI
  refine lv_aload_n hx hb dL_law_1155 rfl (lv_at hl 1 rfl) ?_
  refine lv_aload_n hx hb dL_law_1156 rfl (lv_at hl 0 rfl) ?_
  refine lv_iload_n hx hb dL_law_1157 rfl (lv_at hl 3 rfl) ?_
  refine lv_iconst (v := 1) hx hb dL_law_1158 (by decide) ?_
  refine lv_iadd hx hb dL_law_1159 ?_
  refine va_sld hx hb hX hbl hbA hS (sv1 hk hL) dL_law_1160 ?_
  refine q_call1 (As := [.int (xs (nI k + 1).toNatClampNeg)]) (rest := []) S hK hE hT hP1 hP2 hS (cw_L_142 ht ⟨Nat.le_of_ble_eq_true rfl, Nat.le_of_ble_eq_true rfl⟩) rfl hl.1 rfl (Nat.le_of_ble_eq_true rfl) dL_law_1161 ⟨Nat.le_of_ble_eq_true rfl, Nat.le_of_ble_eq_true rfl⟩ (c_X9_seed hT.g1 rfl e1) (fun H locs hP1 hP2 hS => ?_)
  refine lv_aload_n hx hb dL_law_1164 rfl (lv_at hl 2 rfl) ?_
  refine lv_aload_n hx hb dL_law_1165 rfl (lv_at hl 0 rfl) ?_
  refine lv_iload_n hx hb dL_law_1166 rfl (lv_at hl 3 rfl) ?_
  refine lv_iconst (v := 1) hx hb dL_law_1167 (by decide) ?_
  refine lv_iadd hx hb dL_law_1168 ?_
  refine va_sld hx hb hX hbl hbA hS (sv1 hk hL) dL_law_1169 ?_
  refine q_call2 (As := [.int (xs (nI k + 1).toNatClampNeg)]) (rest := [.int r]) S hK hT hP1 hP2 hS (cw_L_145 ht ⟨Nat.le_of_ble_eq_true rfl, Nat.le_of_ble_eq_true rfl⟩) rfl hl.1 rfl (Nat.le_of_ble_eq_true rfl) dL_law_1170 ⟨Nat.le_of_ble_eq_true rfl, Nat.le_of_ble_eq_true rfl⟩ (c_X10_seed hT.g2 rfl e2) (fun H locs hP1 hP2 hS => ?_)
  refine lv_icmp_eq (tgt := 1670) hx hb dL_law_1173 (by decide) (fun _ => ?_) (fun z => absurd rfl z)
  exact next N1 N2 H locs ls hI2 hP1 hP2 hS hl
set_option maxHeartbeats 4000000 in
set_option maxRecDepth 100000 in
theorem lc_32 {p : Program} {l : Launch} {e : Env} {s : State} {m : MethodId} {below : List Frame} {meth : Method} {c : Code} {Q : State → Prop} {b L : Nat} {xs : Nat → Int32} {D : va_G} {K : Ks} {ad1 ad2 : Nat → Nat} {tC tA tP : Nat} {kK kV : Nat → Nat} {I : Mem → Mem → Prop} (S : CallFix p m c cL_law 4 s #[Value.ref b] Tw RL) (hK : va_K D classes (gty K) s) (hE : E1 (fun q : Nat => s.heap.size ≤ q) tC tA tP kK kV s) (hT : Two s ad1 ad2) (hX : va_X b L xs s s.heap) (hbl : b < s.heap.size) (hL : L ≤ 3072) {k : Nat} (hk : k + 6 ≤ L) (op : ∀ (x1 x2 x3 x4 : Int32) M1 M2, I M1 M2 → ∃ r M1' M2', f_X9_share 0 x1 x2 x3 x4 M1 = some (r, M1') ∧ f_X10_share 0 x1 x2 x3 x4 M2 = some (r, M2') ∧ I M1' M2') (next : ∀ (M1 M2 : Mem) (H : Heap) (locs : List Loc) (ls : Array Slot), I M1 M2 → va_P D classes (gws K G1 ad1 M1) H → va_P D classes (gws K G2 ad2 M2) H → va_S (fun q : Nat => s.heap.size ≤ q) s.heap H locs → lv_has ls 4 [(0, .ref b), (1, .ref (ad1 0)), (2, .ref (ad2 0)), (3, .int (nI k))] → W p l e room_1 s m #[Value.ref b] below meth c H locs 112 15807 Q (F0 m 1670 ls [])) {M1 M2 : Mem} {H : Heap} {locs : List Loc} {ls : Array Slot} (hI : I M1 M2) (hP1 : va_P D classes (gws K G1 ad1 M1) H) (hP2 : va_P D classes (gws K G2 ad2 M2) H) (hS : va_S (fun q : Nat => s.heap.size ≤ q) s.heap H locs) (hl : lv_has ls 4 [(0, .ref b), (1, .ref (ad1 0)), (2, .ref (ad2 0)), (3, .int (nI k))]) : W p l e room_1 s m #[Value.ref b] below meth c H locs 112 15807 Q (F0 m 1178 ls []) := by
  have hx := S.1
  have hb := S.2.1
  have ht := S.2.2.2.2
  have hbA : ¬ (fun q : Nat => s.heap.size ≤ q) b := Nat.not_le.mpr hbl
  obtain ⟨r, N1, N2, e1, e2, hI2⟩ := op (xs (nI k + 1).toNatClampNeg) (xs (nI k + 2).toNatClampNeg) (xs (nI k + 3).toNatClampNeg) (xs (nI k + 4).toNatClampNeg) M1 M2 hI
  refine lv_aload_n hx hb dL_law_1178 rfl (lv_at hl 1 rfl) ?_
  refine lv_aload_n hx hb dL_law_1179 rfl (lv_at hl 0 rfl) ?_
  refine lv_iload_n hx hb dL_law_1180 rfl (lv_at hl 3 rfl) ?_
  refine lv_iconst (v := 1) hx hb dL_law_1181 (by decide) ?_
  refine lv_iadd hx hb dL_law_1182 ?_
  refine va_sld hx hb hX hbl hbA hS (sv1 hk hL) dL_law_1183 ?_
  refine lv_aload_n hx hb dL_law_1184 rfl (lv_at hl 0 rfl) ?_
  refine lv_iload_n hx hb dL_law_1185 rfl (lv_at hl 3 rfl) ?_
  refine lv_iconst (v := 2) hx hb dL_law_1186 (by decide) ?_
  refine lv_iadd hx hb dL_law_1187 ?_
  refine va_sld hx hb hX hbl hbA hS (sv2 hk hL) dL_law_1188 ?_
  refine lv_aload_n hx hb dL_law_1189 rfl (lv_at hl 0 rfl) ?_
  refine lv_iload_n hx hb dL_law_1190 rfl (lv_at hl 3 rfl) ?_
  refine lv_iconst (v := 3) hx hb dL_law_1191 (by decide) ?_
  refine lv_iadd hx hb dL_law_1192 ?_
  refine va_sld hx hb hX hbl hbA hS (sv3 hk hL) dL_law_1193 ?_
  refine lv_aload_n hx hb dL_law_1194 rfl (lv_at hl 0 rfl) ?_
  refine lv_iload_n hx hb dL_law_1195 rfl (lv_at hl 3 rfl) ?_
  refine lv_iconst (v := 4) hx hb dL_law_1196 (by decide) ?_
  refine lv_iadd hx hb dL_law_1197 ?_
  refine va_sld hx hb hX hbl hbA hS (sv4 hk hL) dL_law_1198 ?_
  refine q_call1 (As := [.int (xs (nI k + 1).toNatClampNeg), .int (xs (nI k + 2).toNatClampNeg), .int (xs (nI k + 3).toNatClampNeg), .int (xs (nI k + 4).toNatClampNeg)]) (rest := []) S hK hE hT hP1 hP2 hS (cw_L_146 ht ⟨Nat.le_of_ble_eq_true rfl, Nat.le_of_ble_eq_true rfl⟩) rfl hl.1 rfl (Nat.le_of_ble_eq_true rfl) dL_law_1199 ⟨Nat.le_of_ble_eq_true rfl, Nat.le_of_ble_eq_true rfl⟩ (c_X9_share hT.g1 rfl e1) (fun H locs hP1 hP2 hS => ?_)
  refine lv_aload_n hx hb dL_law_1202 rfl (lv_at hl 2 rfl) ?_
  refine lv_aload_n hx hb dL_law_1203 rfl (lv_at hl 0 rfl) ?_
  refine lv_iload_n hx hb dL_law_1204 rfl (lv_at hl 3 rfl) ?_
  refine lv_iconst (v := 1) hx hb dL_law_1205 (by decide) ?_
  refine lv_iadd hx hb dL_law_1206 ?_
  refine va_sld hx hb hX hbl hbA hS (sv1 hk hL) dL_law_1207 ?_
  refine lv_aload_n hx hb dL_law_1208 rfl (lv_at hl 0 rfl) ?_
  refine lv_iload_n hx hb dL_law_1209 rfl (lv_at hl 3 rfl) ?_
  refine lv_iconst (v := 2) hx hb dL_law_1210 (by decide) ?_
  refine lv_iadd hx hb dL_law_1211 ?_
  refine va_sld hx hb hX hbl hbA hS (sv2 hk hL) dL_law_1212 ?_
  refine lv_aload_n hx hb dL_law_1213 rfl (lv_at hl 0 rfl) ?_
  refine lv_iload_n hx hb dL_law_1214 rfl (lv_at hl 3 rfl) ?_
  refine lv_iconst (v := 3) hx hb dL_law_1215 (by decide) ?_
  refine lv_iadd hx hb dL_law_1216 ?_
  refine va_sld hx hb hX hbl hbA hS (sv3 hk hL) dL_law_1217 ?_
  refine lv_aload_n hx hb dL_law_1218 rfl (lv_at hl 0 rfl) ?_
  refine lv_iload_n hx hb dL_law_1219 rfl (lv_at hl 3 rfl) ?_
  refine lv_iconst (v := 4) hx hb dL_law_1220 (by decide) ?_
  refine lv_iadd hx hb dL_law_1221 ?_
  refine va_sld hx hb hX hbl hbA hS (sv4 hk hL) dL_law_1222 ?_
  refine q_call2 (As := [.int (xs (nI k + 1).toNatClampNeg), .int (xs (nI k + 2).toNatClampNeg), .int (xs (nI k + 3).toNatClampNeg), .int (xs (nI k + 4).toNatClampNeg)]) (rest := [.int r]) S hK hT hP1 hP2 hS (cw_L_150 ht ⟨Nat.le_of_ble_eq_true rfl, Nat.le_of_ble_eq_true rfl⟩) rfl hl.1 rfl (Nat.le_of_ble_eq_true rfl) dL_law_1223 ⟨Nat.le_of_ble_eq_true rfl, Nat.le_of_ble_eq_true rfl⟩ (c_X10_share hT.g2 rfl e2) (fun H locs hP1 hP2 hS => ?_)
  refine lv_icmp_eq (tgt := 1670) hx hb dL_law_1226 (by decide) (fun _ => ?_) (fun z => absurd rfl z)
  exact next N1 N2 H locs ls hI2 hP1 hP2 hS hl
set_option maxHeartbeats 4000000 in
set_option maxRecDepth 100000 in
theorem lc_33 {p : Program} {l : Launch} {e : Env} {s : State} {m : MethodId} {below : List Frame} {meth : Method} {c : Code} {Q : State → Prop} {b L : Nat} {xs : Nat → Int32} {D : va_G} {K : Ks} {ad1 ad2 : Nat → Nat} {tC tA tP : Nat} {kK kV : Nat → Nat} {I : Mem → Mem → Prop} (S : CallFix p m c cL_law 4 s #[Value.ref b] Tw RL) (hK : va_K D classes (gty K) s) (hE : E1 (fun q : Nat => s.heap.size ≤ q) tC tA tP kK kV s) (hT : Two s ad1 ad2) (hX : va_X b L xs s s.heap) (hbl : b < s.heap.size) (hL : L ≤ 3072) {k : Nat} (hk : k + 6 ≤ L) (op : ∀ (x1 x2 x3 : Int32) M1 M2, I M1 M2 → ∃ r M1' M2', f_X9_sheet 0 x1 x2 x3 M1 = some (r, M1') ∧ f_X10_sheet 0 x1 x2 x3 M2 = some (r, M2') ∧ I M1' M2') (next : ∀ (M1 M2 : Mem) (H : Heap) (locs : List Loc) (ls : Array Slot), I M1 M2 → va_P D classes (gws K G1 ad1 M1) H → va_P D classes (gws K G2 ad2 M2) H → va_S (fun q : Nat => s.heap.size ≤ q) s.heap H locs → lv_has ls 4 [(0, .ref b), (1, .ref (ad1 0)), (2, .ref (ad2 0)), (3, .int (nI k))] → W p l e room_1 s m #[Value.ref b] below meth c H locs 112 15807 Q (F0 m 1670 ls [])) {M1 M2 : Mem} {H : Heap} {locs : List Loc} {ls : Array Slot} (hI : I M1 M2) (hP1 : va_P D classes (gws K G1 ad1 M1) H) (hP2 : va_P D classes (gws K G2 ad2 M2) H) (hS : va_S (fun q : Nat => s.heap.size ≤ q) s.heap H locs) (hl : lv_has ls 4 [(0, .ref b), (1, .ref (ad1 0)), (2, .ref (ad2 0)), (3, .int (nI k))]) : W p l e room_1 s m #[Value.ref b] below meth c H locs 112 15807 Q (F0 m 1231 ls []) := by
  have hx := S.1
  have hb := S.2.1
  have ht := S.2.2.2.2
  have hbA : ¬ (fun q : Nat => s.heap.size ≤ q) b := Nat.not_le.mpr hbl
  obtain ⟨r, N1, N2, e1, e2, hI2⟩ := op (xs (nI k + 1).toNatClampNeg) (xs (nI k + 2).toNatClampNeg) (xs (nI k + 3).toNatClampNeg) M1 M2 hI
  refine lv_aload_n hx hb dL_law_1231 rfl (lv_at hl 1 rfl) ?_
  refine lv_aload_n hx hb dL_law_1232 rfl (lv_at hl 0 rfl) ?_
  refine lv_iload_n hx hb dL_law_1233 rfl (lv_at hl 3 rfl) ?_
  refine lv_iconst (v := 1) hx hb dL_law_1234 (by decide) ?_
  refine lv_iadd hx hb dL_law_1235 ?_
  refine va_sld hx hb hX hbl hbA hS (sv1 hk hL) dL_law_1236 ?_
  refine lv_aload_n hx hb dL_law_1237 rfl (lv_at hl 0 rfl) ?_
  refine lv_iload_n hx hb dL_law_1238 rfl (lv_at hl 3 rfl) ?_
  refine lv_iconst (v := 2) hx hb dL_law_1239 (by decide) ?_
  refine lv_iadd hx hb dL_law_1240 ?_
  refine va_sld hx hb hX hbl hbA hS (sv2 hk hL) dL_law_1241 ?_
  refine lv_aload_n hx hb dL_law_1242 rfl (lv_at hl 0 rfl) ?_
  refine lv_iload_n hx hb dL_law_1243 rfl (lv_at hl 3 rfl) ?_
  refine lv_iconst (v := 3) hx hb dL_law_1244 (by decide) ?_
  refine lv_iadd hx hb dL_law_1245 ?_
  refine va_sld hx hb hX hbl hbA hS (sv3 hk hL) dL_law_1246 ?_
  refine q_call1 (As := [.int (xs (nI k + 1).toNatClampNeg), .int (xs (nI k + 2).toNatClampNeg), .int (xs (nI k + 3).toNatClampNeg)]) (rest := []) S hK hE hT hP1 hP2 hS (cw_L_151 ht ⟨Nat.le_of_ble_eq_true rfl, Nat.le_of_ble_eq_true rfl⟩) rfl hl.1 rfl (Nat.le_of_ble_eq_true rfl) dL_law_1247 ⟨Nat.le_of_ble_eq_true rfl, Nat.le_of_ble_eq_true rfl⟩ (c_X9_sheet hT.g1 rfl e1) (fun H locs hP1 hP2 hS => ?_)
  refine lv_aload_n hx hb dL_law_1250 rfl (lv_at hl 2 rfl) ?_
  refine lv_aload_n hx hb dL_law_1251 rfl (lv_at hl 0 rfl) ?_
  refine lv_iload_n hx hb dL_law_1252 rfl (lv_at hl 3 rfl) ?_
  refine lv_iconst (v := 1) hx hb dL_law_1253 (by decide) ?_
  refine lv_iadd hx hb dL_law_1254 ?_
  refine va_sld hx hb hX hbl hbA hS (sv1 hk hL) dL_law_1255 ?_
  refine lv_aload_n hx hb dL_law_1256 rfl (lv_at hl 0 rfl) ?_
  refine lv_iload_n hx hb dL_law_1257 rfl (lv_at hl 3 rfl) ?_
  refine lv_iconst (v := 2) hx hb dL_law_1258 (by decide) ?_
  refine lv_iadd hx hb dL_law_1259 ?_
  refine va_sld hx hb hX hbl hbA hS (sv2 hk hL) dL_law_1260 ?_
  refine lv_aload_n hx hb dL_law_1261 rfl (lv_at hl 0 rfl) ?_
  refine lv_iload_n hx hb dL_law_1262 rfl (lv_at hl 3 rfl) ?_
  refine lv_iconst (v := 3) hx hb dL_law_1263 (by decide) ?_
  refine lv_iadd hx hb dL_law_1264 ?_
  refine va_sld hx hb hX hbl hbA hS (sv3 hk hL) dL_law_1265 ?_
  refine q_call2 (As := [.int (xs (nI k + 1).toNatClampNeg), .int (xs (nI k + 2).toNatClampNeg), .int (xs (nI k + 3).toNatClampNeg)]) (rest := [.int r]) S hK hT hP1 hP2 hS (cw_L_154 ht ⟨Nat.le_of_ble_eq_true rfl, Nat.le_of_ble_eq_true rfl⟩) rfl hl.1 rfl (Nat.le_of_ble_eq_true rfl) dL_law_1266 ⟨Nat.le_of_ble_eq_true rfl, Nat.le_of_ble_eq_true rfl⟩ (c_X10_sheet hT.g2 rfl e2) (fun H locs hP1 hP2 hS => ?_)
  refine lv_icmp_eq (tgt := 1670) hx hb dL_law_1269 (by decide) (fun _ => ?_) (fun z => absurd rfl z)
  exact next N1 N2 H locs ls hI2 hP1 hP2 hS hl
set_option maxHeartbeats 4000000 in
set_option maxRecDepth 100000 in
theorem lc_34 {p : Program} {l : Launch} {e : Env} {s : State} {m : MethodId} {below : List Frame} {meth : Method} {c : Code} {Q : State → Prop} {b L : Nat} {xs : Nat → Int32} {D : va_G} {K : Ks} {ad1 ad2 : Nat → Nat} {tC tA tP : Nat} {kK kV : Nat → Nat} {I : Mem → Mem → Prop} (S : CallFix p m c cL_law 4 s #[Value.ref b] Tw RL) (hK : va_K D classes (gty K) s) (hE : E1 (fun q : Nat => s.heap.size ≤ q) tC tA tP kK kV s) (hT : Two s ad1 ad2) (hX : va_X b L xs s s.heap) (hbl : b < s.heap.size) (hL : L ≤ 3072) {k : Nat} (hk : k + 6 ≤ L) (op : ∀ (x1 x2 x3 : Int32) M1 M2, I M1 M2 → ∃ r M1' M2', f_X9_mark 0 x1 x2 x3 M1 = some (r, M1') ∧ f_X10_mark 0 x1 x2 x3 M2 = some (r, M2') ∧ I M1' M2') (next : ∀ (M1 M2 : Mem) (H : Heap) (locs : List Loc) (ls : Array Slot), I M1 M2 → va_P D classes (gws K G1 ad1 M1) H → va_P D classes (gws K G2 ad2 M2) H → va_S (fun q : Nat => s.heap.size ≤ q) s.heap H locs → lv_has ls 4 [(0, .ref b), (1, .ref (ad1 0)), (2, .ref (ad2 0)), (3, .int (nI k))] → W p l e room_1 s m #[Value.ref b] below meth c H locs 112 15807 Q (F0 m 1670 ls [])) {M1 M2 : Mem} {H : Heap} {locs : List Loc} {ls : Array Slot} (hI : I M1 M2) (hP1 : va_P D classes (gws K G1 ad1 M1) H) (hP2 : va_P D classes (gws K G2 ad2 M2) H) (hS : va_S (fun q : Nat => s.heap.size ≤ q) s.heap H locs) (hl : lv_has ls 4 [(0, .ref b), (1, .ref (ad1 0)), (2, .ref (ad2 0)), (3, .int (nI k))]) : W p l e room_1 s m #[Value.ref b] below meth c H locs 112 15807 Q (F0 m 1274 ls []) := by
  have hx := S.1
  have hb := S.2.1
  have ht := S.2.2.2.2
  have hbA : ¬ (fun q : Nat => s.heap.size ≤ q) b := Nat.not_le.mpr hbl
  obtain ⟨r, N1, N2, e1, e2, hI2⟩ := op (xs (nI k + 1).toNatClampNeg) (xs (nI k + 2).toNatClampNeg) (xs (nI k + 3).toNatClampNeg) M1 M2 hI
  refine lv_aload_n hx hb dL_law_1274 rfl (lv_at hl 1 rfl) ?_
  refine lv_aload_n hx hb dL_law_1275 rfl (lv_at hl 0 rfl) ?_
  refine lv_iload_n hx hb dL_law_1276 rfl (lv_at hl 3 rfl) ?_
  refine lv_iconst (v := 1) hx hb dL_law_1277 (by decide) ?_
  refine lv_iadd hx hb dL_law_1278 ?_
  refine va_sld hx hb hX hbl hbA hS (sv1 hk hL) dL_law_1279 ?_
  refine lv_aload_n hx hb dL_law_1280 rfl (lv_at hl 0 rfl) ?_
  refine lv_iload_n hx hb dL_law_1281 rfl (lv_at hl 3 rfl) ?_
  refine lv_iconst (v := 2) hx hb dL_law_1282 (by decide) ?_
  refine lv_iadd hx hb dL_law_1283 ?_
  refine va_sld hx hb hX hbl hbA hS (sv2 hk hL) dL_law_1284 ?_
  refine lv_aload_n hx hb dL_law_1285 rfl (lv_at hl 0 rfl) ?_
  refine lv_iload_n hx hb dL_law_1286 rfl (lv_at hl 3 rfl) ?_
  refine lv_iconst (v := 3) hx hb dL_law_1287 (by decide) ?_
  refine lv_iadd hx hb dL_law_1288 ?_
  refine va_sld hx hb hX hbl hbA hS (sv3 hk hL) dL_law_1289 ?_
  refine q_call1 (As := [.int (xs (nI k + 1).toNatClampNeg), .int (xs (nI k + 2).toNatClampNeg), .int (xs (nI k + 3).toNatClampNeg)]) (rest := []) S hK hE hT hP1 hP2 hS (cw_L_155 ht ⟨Nat.le_of_ble_eq_true rfl, Nat.le_of_ble_eq_true rfl⟩) rfl hl.1 rfl (Nat.le_of_ble_eq_true rfl) dL_law_1290 ⟨Nat.le_of_ble_eq_true rfl, Nat.le_of_ble_eq_true rfl⟩ (c_X9_mark hT.g1 rfl e1) (fun H locs hP1 hP2 hS => ?_)
  refine lv_aload_n hx hb dL_law_1293 rfl (lv_at hl 2 rfl) ?_
  refine lv_aload_n hx hb dL_law_1294 rfl (lv_at hl 0 rfl) ?_
  refine lv_iload_n hx hb dL_law_1295 rfl (lv_at hl 3 rfl) ?_
  refine lv_iconst (v := 1) hx hb dL_law_1296 (by decide) ?_
  refine lv_iadd hx hb dL_law_1297 ?_
  refine va_sld hx hb hX hbl hbA hS (sv1 hk hL) dL_law_1298 ?_
  refine lv_aload_n hx hb dL_law_1299 rfl (lv_at hl 0 rfl) ?_
  refine lv_iload_n hx hb dL_law_1300 rfl (lv_at hl 3 rfl) ?_
  refine lv_iconst (v := 2) hx hb dL_law_1301 (by decide) ?_
  refine lv_iadd hx hb dL_law_1302 ?_
  refine va_sld hx hb hX hbl hbA hS (sv2 hk hL) dL_law_1303 ?_
  refine lv_aload_n hx hb dL_law_1304 rfl (lv_at hl 0 rfl) ?_
  refine lv_iload_n hx hb dL_law_1305 rfl (lv_at hl 3 rfl) ?_
  refine lv_iconst (v := 3) hx hb dL_law_1306 (by decide) ?_
  refine lv_iadd hx hb dL_law_1307 ?_
  refine va_sld hx hb hX hbl hbA hS (sv3 hk hL) dL_law_1308 ?_
  refine q_call2 (As := [.int (xs (nI k + 1).toNatClampNeg), .int (xs (nI k + 2).toNatClampNeg), .int (xs (nI k + 3).toNatClampNeg)]) (rest := [.int r]) S hK hT hP1 hP2 hS (cw_L_158 ht ⟨Nat.le_of_ble_eq_true rfl, Nat.le_of_ble_eq_true rfl⟩) rfl hl.1 rfl (Nat.le_of_ble_eq_true rfl) dL_law_1309 ⟨Nat.le_of_ble_eq_true rfl, Nat.le_of_ble_eq_true rfl⟩ (c_X10_mark hT.g2 rfl e2) (fun H locs hP1 hP2 hS => ?_)
  refine lv_icmp_eq (tgt := 1670) hx hb dL_law_1312 (by decide) (fun _ => ?_) (fun z => absurd rfl z)
  exact next N1 N2 H locs ls hI2 hP1 hP2 hS hl
set_option maxHeartbeats 4000000 in
set_option maxRecDepth 100000 in
theorem lc_35 {p : Program} {l : Launch} {e : Env} {s : State} {m : MethodId} {below : List Frame} {meth : Method} {c : Code} {Q : State → Prop} {b L : Nat} {xs : Nat → Int32} {D : va_G} {K : Ks} {ad1 ad2 : Nat → Nat} {tC tA tP : Nat} {kK kV : Nat → Nat} {I : Mem → Mem → Prop} (S : CallFix p m c cL_law 4 s #[Value.ref b] Tw RL) (hK : va_K D classes (gty K) s) (hE : E1 (fun q : Nat => s.heap.size ≤ q) tC tA tP kK kV s) (hT : Two s ad1 ad2) (hX : va_X b L xs s s.heap) (hbl : b < s.heap.size) (hL : L ≤ 3072) {k : Nat} (hk : k + 6 ≤ L) (op : ∀ (x1 x2 x3 : Int32) M1 M2, I M1 M2 → ∃ r M1' M2', f_X9_print 0 x1 x2 x3 M1 = some (r, M1') ∧ f_X10_print 0 x1 x2 x3 M2 = some (r, M2') ∧ I M1' M2') (next : ∀ (M1 M2 : Mem) (H : Heap) (locs : List Loc) (ls : Array Slot), I M1 M2 → va_P D classes (gws K G1 ad1 M1) H → va_P D classes (gws K G2 ad2 M2) H → va_S (fun q : Nat => s.heap.size ≤ q) s.heap H locs → lv_has ls 4 [(0, .ref b), (1, .ref (ad1 0)), (2, .ref (ad2 0)), (3, .int (nI k))] → W p l e room_1 s m #[Value.ref b] below meth c H locs 112 15807 Q (F0 m 1670 ls [])) {M1 M2 : Mem} {H : Heap} {locs : List Loc} {ls : Array Slot} (hI : I M1 M2) (hP1 : va_P D classes (gws K G1 ad1 M1) H) (hP2 : va_P D classes (gws K G2 ad2 M2) H) (hS : va_S (fun q : Nat => s.heap.size ≤ q) s.heap H locs) (hl : lv_has ls 4 [(0, .ref b), (1, .ref (ad1 0)), (2, .ref (ad2 0)), (3, .int (nI k))]) : W p l e room_1 s m #[Value.ref b] below meth c H locs 112 15807 Q (F0 m 1317 ls []) := by
  have hx := S.1
  have hb := S.2.1
  have ht := S.2.2.2.2
  have hbA : ¬ (fun q : Nat => s.heap.size ≤ q) b := Nat.not_le.mpr hbl
  obtain ⟨r, N1, N2, e1, e2, hI2⟩ := op (xs (nI k + 1).toNatClampNeg) (xs (nI k + 2).toNatClampNeg) (xs (nI k + 3).toNatClampNeg) M1 M2 hI
  refine lv_aload_n hx hb dL_law_1317 rfl (lv_at hl 1 rfl) ?_
  refine lv_aload_n hx hb dL_law_1318 rfl (lv_at hl 0 rfl) ?_
  refine lv_iload_n hx hb dL_law_1319 rfl (lv_at hl 3 rfl) ?_
  refine lv_iconst (v := 1) hx hb dL_law_1320 (by decide) ?_
  refine lv_iadd hx hb dL_law_1321 ?_
  refine va_sld hx hb hX hbl hbA hS (sv1 hk hL) dL_law_1322 ?_
  refine lv_aload_n hx hb dL_law_1323 rfl (lv_at hl 0 rfl) ?_
  refine lv_iload_n hx hb dL_law_1324 rfl (lv_at hl 3 rfl) ?_
  refine lv_iconst (v := 2) hx hb dL_law_1325 (by decide) ?_
  refine lv_iadd hx hb dL_law_1326 ?_
  refine va_sld hx hb hX hbl hbA hS (sv2 hk hL) dL_law_1327 ?_
  refine lv_aload_n hx hb dL_law_1328 rfl (lv_at hl 0 rfl) ?_
  refine lv_iload_n hx hb dL_law_1329 rfl (lv_at hl 3 rfl) ?_
  refine lv_iconst (v := 3) hx hb dL_law_1330 (by decide) ?_
  refine lv_iadd hx hb dL_law_1331 ?_
  refine va_sld hx hb hX hbl hbA hS (sv3 hk hL) dL_law_1332 ?_
  refine q_call1 (As := [.int (xs (nI k + 1).toNatClampNeg), .int (xs (nI k + 2).toNatClampNeg), .int (xs (nI k + 3).toNatClampNeg)]) (rest := []) S hK hE hT hP1 hP2 hS (cw_L_159 ht ⟨Nat.le_of_ble_eq_true rfl, Nat.le_of_ble_eq_true rfl⟩) rfl hl.1 rfl (Nat.le_of_ble_eq_true rfl) dL_law_1333 ⟨Nat.le_of_ble_eq_true rfl, Nat.le_of_ble_eq_true rfl⟩ (c_X9_print hT.g1 rfl e1) (fun H locs hP1 hP2 hS => ?_)
  refine lv_aload_n hx hb dL_law_1336 rfl (lv_at hl 2 rfl) ?_
  refine lv_aload_n hx hb dL_law_1337 rfl (lv_at hl 0 rfl) ?_
  refine lv_iload_n hx hb dL_law_1338 rfl (lv_at hl 3 rfl) ?_
  refine lv_iconst (v := 1) hx hb dL_law_1339 (by decide) ?_
  refine lv_iadd hx hb dL_law_1340 ?_
  refine va_sld hx hb hX hbl hbA hS (sv1 hk hL) dL_law_1341 ?_
  refine lv_aload_n hx hb dL_law_1342 rfl (lv_at hl 0 rfl) ?_
  refine lv_iload_n hx hb dL_law_1343 rfl (lv_at hl 3 rfl) ?_
  refine lv_iconst (v := 2) hx hb dL_law_1344 (by decide) ?_
  refine lv_iadd hx hb dL_law_1345 ?_
  refine va_sld hx hb hX hbl hbA hS (sv2 hk hL) dL_law_1346 ?_
  refine lv_aload_n hx hb dL_law_1347 rfl (lv_at hl 0 rfl) ?_
  refine lv_iload_n hx hb dL_law_1348 rfl (lv_at hl 3 rfl) ?_
  refine lv_iconst (v := 3) hx hb dL_law_1349 (by decide) ?_
  refine lv_iadd hx hb dL_law_1350 ?_
  refine va_sld hx hb hX hbl hbA hS (sv3 hk hL) dL_law_1351 ?_
  refine q_call2 (As := [.int (xs (nI k + 1).toNatClampNeg), .int (xs (nI k + 2).toNatClampNeg), .int (xs (nI k + 3).toNatClampNeg)]) (rest := [.int r]) S hK hT hP1 hP2 hS (cw_L_162 ht ⟨Nat.le_of_ble_eq_true rfl, Nat.le_of_ble_eq_true rfl⟩) rfl hl.1 rfl (Nat.le_of_ble_eq_true rfl) dL_law_1352 ⟨Nat.le_of_ble_eq_true rfl, Nat.le_of_ble_eq_true rfl⟩ (c_X10_print hT.g2 rfl e2) (fun H locs hP1 hP2 hS => ?_)
  refine lv_icmp_eq (tgt := 1670) hx hb dL_law_1355 (by decide) (fun _ => ?_) (fun z => absurd rfl z)
  exact next N1 N2 H locs ls hI2 hP1 hP2 hS hl
set_option maxHeartbeats 4000000 in
set_option maxRecDepth 100000 in
theorem lc_36 {p : Program} {l : Launch} {e : Env} {s : State} {m : MethodId} {below : List Frame} {meth : Method} {c : Code} {Q : State → Prop} {b L : Nat} {xs : Nat → Int32} {D : va_G} {K : Ks} {ad1 ad2 : Nat → Nat} {tC tA tP : Nat} {kK kV : Nat → Nat} {I : Mem → Mem → Prop} (S : CallFix p m c cL_law 4 s #[Value.ref b] Tw RL) (hK : va_K D classes (gty K) s) (hE : E1 (fun q : Nat => s.heap.size ≤ q) tC tA tP kK kV s) (hT : Two s ad1 ad2) (hX : va_X b L xs s s.heap) (hbl : b < s.heap.size) (hL : L ≤ 3072) {k : Nat} (hk : k + 6 ≤ L) (op : ∀ (x1 x2 x3 x4 x5 : Int32) M1 M2, I M1 M2 → ∃ r M1' M2', f_X9_copy 0 x1 x2 x3 x4 x5 M1 = some (r, M1') ∧ f_X10_copy 0 x1 x2 x3 x4 x5 M2 = some (r, M2') ∧ I M1' M2') (next : ∀ (M1 M2 : Mem) (H : Heap) (locs : List Loc) (ls : Array Slot), I M1 M2 → va_P D classes (gws K G1 ad1 M1) H → va_P D classes (gws K G2 ad2 M2) H → va_S (fun q : Nat => s.heap.size ≤ q) s.heap H locs → lv_has ls 4 [(0, .ref b), (1, .ref (ad1 0)), (2, .ref (ad2 0)), (3, .int (nI k))] → W p l e room_1 s m #[Value.ref b] below meth c H locs 112 15807 Q (F0 m 1670 ls [])) {M1 M2 : Mem} {H : Heap} {locs : List Loc} {ls : Array Slot} (hI : I M1 M2) (hP1 : va_P D classes (gws K G1 ad1 M1) H) (hP2 : va_P D classes (gws K G2 ad2 M2) H) (hS : va_S (fun q : Nat => s.heap.size ≤ q) s.heap H locs) (hl : lv_has ls 4 [(0, .ref b), (1, .ref (ad1 0)), (2, .ref (ad2 0)), (3, .int (nI k))]) : W p l e room_1 s m #[Value.ref b] below meth c H locs 112 15807 Q (F0 m 1360 ls []) := by
  have hx := S.1
  have hb := S.2.1
  have ht := S.2.2.2.2
  have hbA : ¬ (fun q : Nat => s.heap.size ≤ q) b := Nat.not_le.mpr hbl
  obtain ⟨r, N1, N2, e1, e2, hI2⟩ := op (xs (nI k + 1).toNatClampNeg) (xs (nI k + 2).toNatClampNeg) (xs (nI k + 3).toNatClampNeg) (xs (nI k + 4).toNatClampNeg) (xs (nI k + 5).toNatClampNeg) M1 M2 hI
  refine lv_aload_n hx hb dL_law_1360 rfl (lv_at hl 1 rfl) ?_
  refine lv_aload_n hx hb dL_law_1361 rfl (lv_at hl 0 rfl) ?_
  refine lv_iload_n hx hb dL_law_1362 rfl (lv_at hl 3 rfl) ?_
  refine lv_iconst (v := 1) hx hb dL_law_1363 (by decide) ?_
  refine lv_iadd hx hb dL_law_1364 ?_
  refine va_sld hx hb hX hbl hbA hS (sv1 hk hL) dL_law_1365 ?_
  refine lv_aload_n hx hb dL_law_1366 rfl (lv_at hl 0 rfl) ?_
  refine lv_iload_n hx hb dL_law_1367 rfl (lv_at hl 3 rfl) ?_
  refine lv_iconst (v := 2) hx hb dL_law_1368 (by decide) ?_
  refine lv_iadd hx hb dL_law_1369 ?_
  refine va_sld hx hb hX hbl hbA hS (sv2 hk hL) dL_law_1370 ?_
  refine lv_aload_n hx hb dL_law_1371 rfl (lv_at hl 0 rfl) ?_
  refine lv_iload_n hx hb dL_law_1372 rfl (lv_at hl 3 rfl) ?_
  refine lv_iconst (v := 3) hx hb dL_law_1373 (by decide) ?_
  refine lv_iadd hx hb dL_law_1374 ?_
  refine va_sld hx hb hX hbl hbA hS (sv3 hk hL) dL_law_1375 ?_
  refine lv_aload_n hx hb dL_law_1376 rfl (lv_at hl 0 rfl) ?_
  refine lv_iload_n hx hb dL_law_1377 rfl (lv_at hl 3 rfl) ?_
  refine lv_iconst (v := 4) hx hb dL_law_1378 (by decide) ?_
  refine lv_iadd hx hb dL_law_1379 ?_
  refine va_sld hx hb hX hbl hbA hS (sv4 hk hL) dL_law_1380 ?_
  refine lv_aload_n hx hb dL_law_1381 rfl (lv_at hl 0 rfl) ?_
  refine lv_iload_n hx hb dL_law_1382 rfl (lv_at hl 3 rfl) ?_
  refine lv_iconst (v := 5) hx hb dL_law_1383 (by decide) ?_
  refine lv_iadd hx hb dL_law_1384 ?_
  refine va_sld hx hb hX hbl hbA hS (sv5 hk hL) dL_law_1385 ?_
  refine q_call1 (As := [.int (xs (nI k + 1).toNatClampNeg), .int (xs (nI k + 2).toNatClampNeg), .int (xs (nI k + 3).toNatClampNeg), .int (xs (nI k + 4).toNatClampNeg), .int (xs (nI k + 5).toNatClampNeg)]) (rest := []) S hK hE hT hP1 hP2 hS (cw_L_163 ht ⟨Nat.le_of_ble_eq_true rfl, Nat.le_of_ble_eq_true rfl⟩) rfl hl.1 rfl (Nat.le_of_ble_eq_true rfl) dL_law_1386 ⟨Nat.le_of_ble_eq_true rfl, Nat.le_of_ble_eq_true rfl⟩ (c_X9_copy hT.g1 rfl e1) (fun H locs hP1 hP2 hS => ?_)
  refine lv_aload_n hx hb dL_law_1389 rfl (lv_at hl 2 rfl) ?_
  refine lv_aload_n hx hb dL_law_1390 rfl (lv_at hl 0 rfl) ?_
  refine lv_iload_n hx hb dL_law_1391 rfl (lv_at hl 3 rfl) ?_
  refine lv_iconst (v := 1) hx hb dL_law_1392 (by decide) ?_
  refine lv_iadd hx hb dL_law_1393 ?_
  refine va_sld hx hb hX hbl hbA hS (sv1 hk hL) dL_law_1394 ?_
  refine lv_aload_n hx hb dL_law_1395 rfl (lv_at hl 0 rfl) ?_
  refine lv_iload_n hx hb dL_law_1396 rfl (lv_at hl 3 rfl) ?_
  refine lv_iconst (v := 2) hx hb dL_law_1397 (by decide) ?_
  refine lv_iadd hx hb dL_law_1398 ?_
  refine va_sld hx hb hX hbl hbA hS (sv2 hk hL) dL_law_1399 ?_
  refine lv_aload_n hx hb dL_law_1400 rfl (lv_at hl 0 rfl) ?_
  refine lv_iload_n hx hb dL_law_1401 rfl (lv_at hl 3 rfl) ?_
  refine lv_iconst (v := 3) hx hb dL_law_1402 (by decide) ?_
  refine lv_iadd hx hb dL_law_1403 ?_
  refine va_sld hx hb hX hbl hbA hS (sv3 hk hL) dL_law_1404 ?_
  refine lv_aload_n hx hb dL_law_1405 rfl (lv_at hl 0 rfl) ?_
  refine lv_iload_n hx hb dL_law_1406 rfl (lv_at hl 3 rfl) ?_
  refine lv_iconst (v := 4) hx hb dL_law_1407 (by decide) ?_
  refine lv_iadd hx hb dL_law_1408 ?_
  refine va_sld hx hb hX hbl hbA hS (sv4 hk hL) dL_law_1409 ?_
  refine lv_aload_n hx hb dL_law_1410 rfl (lv_at hl 0 rfl) ?_
  refine lv_iload_n hx hb dL_law_1411 rfl (lv_at hl 3 rfl) ?_
  refine lv_iconst (v := 5) hx hb dL_law_1412 (by decide) ?_
  refine lv_iadd hx hb dL_law_1413 ?_
  refine va_sld hx hb hX hbl hbA hS (sv5 hk hL) dL_law_1414 ?_
  refine q_call2 (As := [.int (xs (nI k + 1).toNatClampNeg), .int (xs (nI k + 2).toNatClampNeg), .int (xs (nI k + 3).toNatClampNeg), .int (xs (nI k + 4).toNatClampNeg), .int (xs (nI k + 5).toNatClampNeg)]) (rest := [.int r]) S hK hT hP1 hP2 hS (cw_L_166 ht ⟨Nat.le_of_ble_eq_true rfl, Nat.le_of_ble_eq_true rfl⟩) rfl hl.1 rfl (Nat.le_of_ble_eq_true rfl) dL_law_1415 ⟨Nat.le_of_ble_eq_true rfl, Nat.le_of_ble_eq_true rfl⟩ (c_X10_copy hT.g2 rfl e2) (fun H locs hP1 hP2 hS => ?_)
  refine lv_icmp_eq (tgt := 1670) hx hb dL_law_1418 (by decide) (fun _ => ?_) (fun z => absurd rfl z)
  exact next N1 N2 H locs ls hI2 hP1 hP2 hS hl
set_option maxHeartbeats 4000000 in
set_option maxRecDepth 100000 in
theorem lc_37 {p : Program} {l : Launch} {e : Env} {s : State} {m : MethodId} {below : List Frame} {meth : Method} {c : Code} {Q : State → Prop} {b L : Nat} {xs : Nat → Int32} {D : va_G} {K : Ks} {ad1 ad2 : Nat → Nat} {tC tA tP : Nat} {kK kV : Nat → Nat} {I : Mem → Mem → Prop} (S : CallFix p m c cL_law 4 s #[Value.ref b] Tw RL) (hK : va_K D classes (gty K) s) (hE : E1 (fun q : Nat => s.heap.size ≤ q) tC tA tP kK kV s) (hT : Two s ad1 ad2) (hX : va_X b L xs s s.heap) (hbl : b < s.heap.size) (hL : L ≤ 3072) {k : Nat} (hk : k + 6 ≤ L) (op : ∀ (x1 x2 x3 : Int32) M1 M2, I M1 M2 → ∃ r M1' M2', f_X9_lay 0 x1 x2 x3 M1 = some (r, M1') ∧ f_X10_lay 0 x1 x2 x3 M2 = some (r, M2') ∧ I M1' M2') (next : ∀ (M1 M2 : Mem) (H : Heap) (locs : List Loc) (ls : Array Slot), I M1 M2 → va_P D classes (gws K G1 ad1 M1) H → va_P D classes (gws K G2 ad2 M2) H → va_S (fun q : Nat => s.heap.size ≤ q) s.heap H locs → lv_has ls 4 [(0, .ref b), (1, .ref (ad1 0)), (2, .ref (ad2 0)), (3, .int (nI k))] → W p l e room_1 s m #[Value.ref b] below meth c H locs 112 15807 Q (F0 m 1670 ls [])) {M1 M2 : Mem} {H : Heap} {locs : List Loc} {ls : Array Slot} (hI : I M1 M2) (hP1 : va_P D classes (gws K G1 ad1 M1) H) (hP2 : va_P D classes (gws K G2 ad2 M2) H) (hS : va_S (fun q : Nat => s.heap.size ≤ q) s.heap H locs) (hl : lv_has ls 4 [(0, .ref b), (1, .ref (ad1 0)), (2, .ref (ad2 0)), (3, .int (nI k))]) : W p l e room_1 s m #[Value.ref b] below meth c H locs 112 15807 Q (F0 m 1423 ls []) := by
  have hx := S.1
  have hb := S.2.1
  have ht := S.2.2.2.2
  have hbA : ¬ (fun q : Nat => s.heap.size ≤ q) b := Nat.not_le.mpr hbl
  obtain ⟨r, N1, N2, e1, e2, hI2⟩ := op (xs (nI k + 1).toNatClampNeg) (xs (nI k + 2).toNatClampNeg) (xs (nI k + 3).toNatClampNeg) M1 M2 hI
  refine lv_aload_n hx hb dL_law_1423 rfl (lv_at hl 1 rfl) ?_
  refine lv_aload_n hx hb dL_law_1424 rfl (lv_at hl 0 rfl) ?_
  refine lv_iload_n hx hb dL_law_1425 rfl (lv_at hl 3 rfl) ?_
  refine lv_iconst (v := 1) hx hb dL_law_1426 (by decide) ?_
  refine lv_iadd hx hb dL_law_1427 ?_
  refine va_sld hx hb hX hbl hbA hS (sv1 hk hL) dL_law_1428 ?_
  refine lv_aload_n hx hb dL_law_1429 rfl (lv_at hl 0 rfl) ?_
  refine lv_iload_n hx hb dL_law_1430 rfl (lv_at hl 3 rfl) ?_
  refine lv_iconst (v := 2) hx hb dL_law_1431 (by decide) ?_
  refine lv_iadd hx hb dL_law_1432 ?_
  refine va_sld hx hb hX hbl hbA hS (sv2 hk hL) dL_law_1433 ?_
  refine lv_aload_n hx hb dL_law_1434 rfl (lv_at hl 0 rfl) ?_
  refine lv_iload_n hx hb dL_law_1435 rfl (lv_at hl 3 rfl) ?_
  refine lv_iconst (v := 3) hx hb dL_law_1436 (by decide) ?_
  refine lv_iadd hx hb dL_law_1437 ?_
  refine va_sld hx hb hX hbl hbA hS (sv3 hk hL) dL_law_1438 ?_
  refine q_call1 (As := [.int (xs (nI k + 1).toNatClampNeg), .int (xs (nI k + 2).toNatClampNeg), .int (xs (nI k + 3).toNatClampNeg)]) (rest := []) S hK hE hT hP1 hP2 hS (cw_L_167 ht ⟨Nat.le_of_ble_eq_true rfl, Nat.le_of_ble_eq_true rfl⟩) rfl hl.1 rfl (Nat.le_of_ble_eq_true rfl) dL_law_1439 ⟨Nat.le_of_ble_eq_true rfl, Nat.le_of_ble_eq_true rfl⟩ (c_X9_lay hT.g1 rfl e1) (fun H locs hP1 hP2 hS => ?_)
  refine lv_aload_n hx hb dL_law_1442 rfl (lv_at hl 2 rfl) ?_
  refine lv_aload_n hx hb dL_law_1443 rfl (lv_at hl 0 rfl) ?_
  refine lv_iload_n hx hb dL_law_1444 rfl (lv_at hl 3 rfl) ?_
  refine lv_iconst (v := 1) hx hb dL_law_1445 (by decide) ?_
  refine lv_iadd hx hb dL_law_1446 ?_
  refine va_sld hx hb hX hbl hbA hS (sv1 hk hL) dL_law_1447 ?_
  refine lv_aload_n hx hb dL_law_1448 rfl (lv_at hl 0 rfl) ?_
  refine lv_iload_n hx hb dL_law_1449 rfl (lv_at hl 3 rfl) ?_
  refine lv_iconst (v := 2) hx hb dL_law_1450 (by decide) ?_
  refine lv_iadd hx hb dL_law_1451 ?_
  refine va_sld hx hb hX hbl hbA hS (sv2 hk hL) dL_law_1452 ?_
  refine lv_aload_n hx hb dL_law_1453 rfl (lv_at hl 0 rfl) ?_
  refine lv_iload_n hx hb dL_law_1454 rfl (lv_at hl 3 rfl) ?_
  refine lv_iconst (v := 3) hx hb dL_law_1455 (by decide) ?_
  refine lv_iadd hx hb dL_law_1456 ?_
  refine va_sld hx hb hX hbl hbA hS (sv3 hk hL) dL_law_1457 ?_
  refine q_call2 (As := [.int (xs (nI k + 1).toNatClampNeg), .int (xs (nI k + 2).toNatClampNeg), .int (xs (nI k + 3).toNatClampNeg)]) (rest := [.int r]) S hK hT hP1 hP2 hS (cw_L_170 ht ⟨Nat.le_of_ble_eq_true rfl, Nat.le_of_ble_eq_true rfl⟩) rfl hl.1 rfl (Nat.le_of_ble_eq_true rfl) dL_law_1458 ⟨Nat.le_of_ble_eq_true rfl, Nat.le_of_ble_eq_true rfl⟩ (c_X10_lay hT.g2 rfl e2) (fun H locs hP1 hP2 hS => ?_)
  refine lv_icmp_eq (tgt := 1670) hx hb dL_law_1461 (by decide) (fun _ => ?_) (fun z => absurd rfl z)
  exact next N1 N2 H locs ls hI2 hP1 hP2 hS hl
set_option maxHeartbeats 4000000 in
set_option maxRecDepth 100000 in
theorem lc_38 {p : Program} {l : Launch} {e : Env} {s : State} {m : MethodId} {below : List Frame} {meth : Method} {c : Code} {Q : State → Prop} {b L : Nat} {xs : Nat → Int32} {D : va_G} {K : Ks} {ad1 ad2 : Nat → Nat} {tC tA tP : Nat} {kK kV : Nat → Nat} {I : Mem → Mem → Prop} (S : CallFix p m c cL_law 4 s #[Value.ref b] Tw RL) (hK : va_K D classes (gty K) s) (hE : E1 (fun q : Nat => s.heap.size ≤ q) tC tA tP kK kV s) (hT : Two s ad1 ad2) (hX : va_X b L xs s s.heap) (hbl : b < s.heap.size) (hL : L ≤ 3072) {k : Nat} (hk : k + 6 ≤ L) (op : ∀ (x1 x2 : Int32) M1 M2, I M1 M2 → ∃ r M1' M2', f_X9_ask 0 x1 x2 M1 = some (r, M1') ∧ f_X10_ask 0 x1 x2 M2 = some (r, M2') ∧ I M1' M2') (next : ∀ (M1 M2 : Mem) (H : Heap) (locs : List Loc) (ls : Array Slot), I M1 M2 → va_P D classes (gws K G1 ad1 M1) H → va_P D classes (gws K G2 ad2 M2) H → va_S (fun q : Nat => s.heap.size ≤ q) s.heap H locs → lv_has ls 4 [(0, .ref b), (1, .ref (ad1 0)), (2, .ref (ad2 0)), (3, .int (nI k))] → W p l e room_1 s m #[Value.ref b] below meth c H locs 112 15807 Q (F0 m 1670 ls [])) {M1 M2 : Mem} {H : Heap} {locs : List Loc} {ls : Array Slot} (hI : I M1 M2) (hP1 : va_P D classes (gws K G1 ad1 M1) H) (hP2 : va_P D classes (gws K G2 ad2 M2) H) (hS : va_S (fun q : Nat => s.heap.size ≤ q) s.heap H locs) (hl : lv_has ls 4 [(0, .ref b), (1, .ref (ad1 0)), (2, .ref (ad2 0)), (3, .int (nI k))]) : W p l e room_1 s m #[Value.ref b] below meth c H locs 112 15807 Q (F0 m 1466 ls []) := by
  have hx := S.1
  have hb := S.2.1
  have ht := S.2.2.2.2
  have hbA : ¬ (fun q : Nat => s.heap.size ≤ q) b := Nat.not_le.mpr hbl
  obtain ⟨r, N1, N2, e1, e2, hI2⟩ := op (xs (nI k + 1).toNatClampNeg) (xs (nI k + 2).toNatClampNeg) M1 M2 hI
  refine lv_aload_n hx hb dL_law_1466 rfl (lv_at hl 1 rfl) ?_
  refine lv_aload_n hx hb dL_law_1467 rfl (lv_at hl 0 rfl) ?_
  refine lv_iload_n hx hb dL_law_1468 rfl (lv_at hl 3 rfl) ?_
  refine lv_iconst (v := 1) hx hb dL_law_1469 (by decide) ?_
  refine lv_iadd hx hb dL_law_1470 ?_
  refine va_sld hx hb hX hbl hbA hS (sv1 hk hL) dL_law_1471 ?_
  refine lv_aload_n hx hb dL_law_1472 rfl (lv_at hl 0 rfl) ?_
  refine lv_iload_n hx hb dL_law_1473 rfl (lv_at hl 3 rfl) ?_
  refine lv_iconst (v := 2) hx hb dL_law_1474 (by decide) ?_
  refine lv_iadd hx hb dL_law_1475 ?_
  refine va_sld hx hb hX hbl hbA hS (sv2 hk hL) dL_law_1476 ?_
  refine q_call1 (As := [.int (xs (nI k + 1).toNatClampNeg), .int (xs (nI k + 2).toNatClampNeg)]) (rest := []) S hK hE hT hP1 hP2 hS (cw_L_171 ht ⟨Nat.le_of_ble_eq_true rfl, Nat.le_of_ble_eq_true rfl⟩) rfl hl.1 rfl (Nat.le_of_ble_eq_true rfl) dL_law_1477 ⟨Nat.le_of_ble_eq_true rfl, Nat.le_of_ble_eq_true rfl⟩ (c_X9_ask hT.g1 rfl e1) (fun H locs hP1 hP2 hS => ?_)
  refine lv_aload_n hx hb dL_law_1480 rfl (lv_at hl 2 rfl) ?_
  refine lv_aload_n hx hb dL_law_1481 rfl (lv_at hl 0 rfl) ?_
  refine lv_iload_n hx hb dL_law_1482 rfl (lv_at hl 3 rfl) ?_
  refine lv_iconst (v := 1) hx hb dL_law_1483 (by decide) ?_
  refine lv_iadd hx hb dL_law_1484 ?_
  refine va_sld hx hb hX hbl hbA hS (sv1 hk hL) dL_law_1485 ?_
  refine lv_aload_n hx hb dL_law_1486 rfl (lv_at hl 0 rfl) ?_
  refine lv_iload_n hx hb dL_law_1487 rfl (lv_at hl 3 rfl) ?_
  refine lv_iconst (v := 2) hx hb dL_law_1488 (by decide) ?_
  refine lv_iadd hx hb dL_law_1489 ?_
  refine va_sld hx hb hX hbl hbA hS (sv2 hk hL) dL_law_1490 ?_
  refine q_call2 (As := [.int (xs (nI k + 1).toNatClampNeg), .int (xs (nI k + 2).toNatClampNeg)]) (rest := [.int r]) S hK hT hP1 hP2 hS (cw_L_174 ht ⟨Nat.le_of_ble_eq_true rfl, Nat.le_of_ble_eq_true rfl⟩) rfl hl.1 rfl (Nat.le_of_ble_eq_true rfl) dL_law_1491 ⟨Nat.le_of_ble_eq_true rfl, Nat.le_of_ble_eq_true rfl⟩ (c_X10_ask hT.g2 rfl e2) (fun H locs hP1 hP2 hS => ?_)
  refine lv_icmp_eq (tgt := 1670) hx hb dL_law_1494 (by decide) (fun _ => ?_) (fun z => absurd rfl z)
  exact next N1 N2 H locs ls hI2 hP1 hP2 hS hl
set_option maxHeartbeats 4000000 in
set_option maxRecDepth 100000 in
theorem lc_39 {p : Program} {l : Launch} {e : Env} {s : State} {m : MethodId} {below : List Frame} {meth : Method} {c : Code} {Q : State → Prop} {b L : Nat} {xs : Nat → Int32} {D : va_G} {K : Ks} {ad1 ad2 : Nat → Nat} {tC tA tP : Nat} {kK kV : Nat → Nat} {I : Mem → Mem → Prop} (S : CallFix p m c cL_law 4 s #[Value.ref b] Tw RL) (hK : va_K D classes (gty K) s) (hE : E1 (fun q : Nat => s.heap.size ≤ q) tC tA tP kK kV s) (hT : Two s ad1 ad2) (hX : va_X b L xs s s.heap) (hbl : b < s.heap.size) (hL : L ≤ 3072) {k : Nat} (hk : k + 6 ≤ L) (op : ∀ (x1 x2 : Int32) M1 M2, I M1 M2 → ∃ r M1' M2', f_X9_item 0 x1 x2 M1 = some (r, M1') ∧ f_X10_item 0 x1 x2 M2 = some (r, M2') ∧ I M1' M2') (next : ∀ (M1 M2 : Mem) (H : Heap) (locs : List Loc) (ls : Array Slot), I M1 M2 → va_P D classes (gws K G1 ad1 M1) H → va_P D classes (gws K G2 ad2 M2) H → va_S (fun q : Nat => s.heap.size ≤ q) s.heap H locs → lv_has ls 4 [(0, .ref b), (1, .ref (ad1 0)), (2, .ref (ad2 0)), (3, .int (nI k))] → W p l e room_1 s m #[Value.ref b] below meth c H locs 112 15807 Q (F0 m 1670 ls [])) {M1 M2 : Mem} {H : Heap} {locs : List Loc} {ls : Array Slot} (hI : I M1 M2) (hP1 : va_P D classes (gws K G1 ad1 M1) H) (hP2 : va_P D classes (gws K G2 ad2 M2) H) (hS : va_S (fun q : Nat => s.heap.size ≤ q) s.heap H locs) (hl : lv_has ls 4 [(0, .ref b), (1, .ref (ad1 0)), (2, .ref (ad2 0)), (3, .int (nI k))]) : W p l e room_1 s m #[Value.ref b] below meth c H locs 112 15807 Q (F0 m 1499 ls []) := by
  have hx := S.1
  have hb := S.2.1
  have ht := S.2.2.2.2
  have hbA : ¬ (fun q : Nat => s.heap.size ≤ q) b := Nat.not_le.mpr hbl
  obtain ⟨r, N1, N2, e1, e2, hI2⟩ := op (xs (nI k + 1).toNatClampNeg) (xs (nI k + 2).toNatClampNeg) M1 M2 hI
  refine lv_aload_n hx hb dL_law_1499 rfl (lv_at hl 1 rfl) ?_
  refine lv_aload_n hx hb dL_law_1500 rfl (lv_at hl 0 rfl) ?_
  refine lv_iload_n hx hb dL_law_1501 rfl (lv_at hl 3 rfl) ?_
  refine lv_iconst (v := 1) hx hb dL_law_1502 (by decide) ?_
  refine lv_iadd hx hb dL_law_1503 ?_
  refine va_sld hx hb hX hbl hbA hS (sv1 hk hL) dL_law_1504 ?_
  refine lv_aload_n hx hb dL_law_1505 rfl (lv_at hl 0 rfl) ?_
  refine lv_iload_n hx hb dL_law_1506 rfl (lv_at hl 3 rfl) ?_
  refine lv_iconst (v := 2) hx hb dL_law_1507 (by decide) ?_
  refine lv_iadd hx hb dL_law_1508 ?_
  refine va_sld hx hb hX hbl hbA hS (sv2 hk hL) dL_law_1509 ?_
  refine q_call1 (As := [.int (xs (nI k + 1).toNatClampNeg), .int (xs (nI k + 2).toNatClampNeg)]) (rest := []) S hK hE hT hP1 hP2 hS (cw_L_175 ht ⟨Nat.le_of_ble_eq_true rfl, Nat.le_of_ble_eq_true rfl⟩) rfl hl.1 rfl (Nat.le_of_ble_eq_true rfl) dL_law_1510 ⟨Nat.le_of_ble_eq_true rfl, Nat.le_of_ble_eq_true rfl⟩ (c_X9_item hT.g1 rfl e1) (fun H locs hP1 hP2 hS => ?_)
  refine lv_aload_n hx hb dL_law_1513 rfl (lv_at hl 2 rfl) ?_
  refine lv_aload_n hx hb dL_law_1514 rfl (lv_at hl 0 rfl) ?_
  refine lv_iload_n hx hb dL_law_1515 rfl (lv_at hl 3 rfl) ?_
  refine lv_iconst (v := 1) hx hb dL_law_1516 (by decide) ?_
  refine lv_iadd hx hb dL_law_1517 ?_
  refine va_sld hx hb hX hbl hbA hS (sv1 hk hL) dL_law_1518 ?_
  refine lv_aload_n hx hb dL_law_1519 rfl (lv_at hl 0 rfl) ?_
  refine lv_iload_n hx hb dL_law_1520 rfl (lv_at hl 3 rfl) ?_
  refine lv_iconst (v := 2) hx hb dL_law_1521 (by decide) ?_
  refine lv_iadd hx hb dL_law_1522 ?_
  refine va_sld hx hb hX hbl hbA hS (sv2 hk hL) dL_law_1523 ?_
  refine q_call2 (As := [.int (xs (nI k + 1).toNatClampNeg), .int (xs (nI k + 2).toNatClampNeg)]) (rest := [.int r]) S hK hT hP1 hP2 hS (cw_L_178 ht ⟨Nat.le_of_ble_eq_true rfl, Nat.le_of_ble_eq_true rfl⟩) rfl hl.1 rfl (Nat.le_of_ble_eq_true rfl) dL_law_1524 ⟨Nat.le_of_ble_eq_true rfl, Nat.le_of_ble_eq_true rfl⟩ (c_X10_item hT.g2 rfl e2) (fun H locs hP1 hP2 hS => ?_)
  refine lv_icmp_eq (tgt := 1670) hx hb dL_law_1527 (by decide) (fun _ => ?_) (fun z => absurd rfl z)
  exact next N1 N2 H locs ls hI2 hP1 hP2 hS hl
set_option maxHeartbeats 4000000 in
set_option maxRecDepth 100000 in
theorem lc_40 {p : Program} {l : Launch} {e : Env} {s : State} {m : MethodId} {below : List Frame} {meth : Method} {c : Code} {Q : State → Prop} {b L : Nat} {xs : Nat → Int32} {D : va_G} {K : Ks} {ad1 ad2 : Nat → Nat} {tC tA tP : Nat} {kK kV : Nat → Nat} {I : Mem → Mem → Prop} (S : CallFix p m c cL_law 4 s #[Value.ref b] Tw RL) (hK : va_K D classes (gty K) s) (hE : E1 (fun q : Nat => s.heap.size ≤ q) tC tA tP kK kV s) (hT : Two s ad1 ad2) (hX : va_X b L xs s s.heap) (hbl : b < s.heap.size) (hL : L ≤ 3072) {k : Nat} (hk : k + 6 ≤ L) (op : ∀ (x1 x2 : Int32) M1 M2, I M1 M2 → ∃ r M1' M2', f_X9_rest 0 x1 x2 M1 = some (r, M1') ∧ f_X10_rest 0 x1 x2 M2 = some (r, M2') ∧ I M1' M2') (next : ∀ (M1 M2 : Mem) (H : Heap) (locs : List Loc) (ls : Array Slot), I M1 M2 → va_P D classes (gws K G1 ad1 M1) H → va_P D classes (gws K G2 ad2 M2) H → va_S (fun q : Nat => s.heap.size ≤ q) s.heap H locs → lv_has ls 4 [(0, .ref b), (1, .ref (ad1 0)), (2, .ref (ad2 0)), (3, .int (nI k))] → W p l e room_1 s m #[Value.ref b] below meth c H locs 112 15807 Q (F0 m 1670 ls [])) {M1 M2 : Mem} {H : Heap} {locs : List Loc} {ls : Array Slot} (hI : I M1 M2) (hP1 : va_P D classes (gws K G1 ad1 M1) H) (hP2 : va_P D classes (gws K G2 ad2 M2) H) (hS : va_S (fun q : Nat => s.heap.size ≤ q) s.heap H locs) (hl : lv_has ls 4 [(0, .ref b), (1, .ref (ad1 0)), (2, .ref (ad2 0)), (3, .int (nI k))]) : W p l e room_1 s m #[Value.ref b] below meth c H locs 112 15807 Q (F0 m 1532 ls []) := by
  have hx := S.1
  have hb := S.2.1
  have ht := S.2.2.2.2
  have hbA : ¬ (fun q : Nat => s.heap.size ≤ q) b := Nat.not_le.mpr hbl
  obtain ⟨r, N1, N2, e1, e2, hI2⟩ := op (xs (nI k + 1).toNatClampNeg) (xs (nI k + 2).toNatClampNeg) M1 M2 hI
  refine lv_aload_n hx hb dL_law_1532 rfl (lv_at hl 1 rfl) ?_
  refine lv_aload_n hx hb dL_law_1533 rfl (lv_at hl 0 rfl) ?_
  refine lv_iload_n hx hb dL_law_1534 rfl (lv_at hl 3 rfl) ?_
  refine lv_iconst (v := 1) hx hb dL_law_1535 (by decide) ?_
  refine lv_iadd hx hb dL_law_1536 ?_
  refine va_sld hx hb hX hbl hbA hS (sv1 hk hL) dL_law_1537 ?_
  refine lv_aload_n hx hb dL_law_1538 rfl (lv_at hl 0 rfl) ?_
  refine lv_iload_n hx hb dL_law_1539 rfl (lv_at hl 3 rfl) ?_
  refine lv_iconst (v := 2) hx hb dL_law_1540 (by decide) ?_
  refine lv_iadd hx hb dL_law_1541 ?_
  refine va_sld hx hb hX hbl hbA hS (sv2 hk hL) dL_law_1542 ?_
  refine q_call1 (As := [.int (xs (nI k + 1).toNatClampNeg), .int (xs (nI k + 2).toNatClampNeg)]) (rest := []) S hK hE hT hP1 hP2 hS (cw_L_179 ht ⟨Nat.le_of_ble_eq_true rfl, Nat.le_of_ble_eq_true rfl⟩) rfl hl.1 rfl (Nat.le_of_ble_eq_true rfl) dL_law_1543 ⟨Nat.le_of_ble_eq_true rfl, Nat.le_of_ble_eq_true rfl⟩ (c_X9_rest hT.g1 rfl e1) (fun H locs hP1 hP2 hS => ?_)
  refine lv_aload_n hx hb dL_law_1546 rfl (lv_at hl 2 rfl) ?_
  refine lv_aload_n hx hb dL_law_1547 rfl (lv_at hl 0 rfl) ?_
  refine lv_iload_n hx hb dL_law_1548 rfl (lv_at hl 3 rfl) ?_
  refine lv_iconst (v := 1) hx hb dL_law_1549 (by decide) ?_
  refine lv_iadd hx hb dL_law_1550 ?_
  refine va_sld hx hb hX hbl hbA hS (sv1 hk hL) dL_law_1551 ?_
  refine lv_aload_n hx hb dL_law_1552 rfl (lv_at hl 0 rfl) ?_
  refine lv_iload_n hx hb dL_law_1553 rfl (lv_at hl 3 rfl) ?_
  refine lv_iconst (v := 2) hx hb dL_law_1554 (by decide) ?_
  refine lv_iadd hx hb dL_law_1555 ?_
  refine va_sld hx hb hX hbl hbA hS (sv2 hk hL) dL_law_1556 ?_
  refine q_call2 (As := [.int (xs (nI k + 1).toNatClampNeg), .int (xs (nI k + 2).toNatClampNeg)]) (rest := [.int r]) S hK hT hP1 hP2 hS (cw_L_182 ht ⟨Nat.le_of_ble_eq_true rfl, Nat.le_of_ble_eq_true rfl⟩) rfl hl.1 rfl (Nat.le_of_ble_eq_true rfl) dL_law_1557 ⟨Nat.le_of_ble_eq_true rfl, Nat.le_of_ble_eq_true rfl⟩ (c_X10_rest hT.g2 rfl e2) (fun H locs hP1 hP2 hS => ?_)
  refine lv_icmp_eq (tgt := 1670) hx hb dL_law_1560 (by decide) (fun _ => ?_) (fun z => absurd rfl z)
  exact next N1 N2 H locs ls hI2 hP1 hP2 hS hl
set_option maxHeartbeats 4000000 in
set_option maxRecDepth 100000 in
theorem lc_41 {p : Program} {l : Launch} {e : Env} {s : State} {m : MethodId} {below : List Frame} {meth : Method} {c : Code} {Q : State → Prop} {b L : Nat} {xs : Nat → Int32} {D : va_G} {K : Ks} {ad1 ad2 : Nat → Nat} {tC tA tP : Nat} {kK kV : Nat → Nat} {I : Mem → Mem → Prop} (S : CallFix p m c cL_law 4 s #[Value.ref b] Tw RL) (hK : va_K D classes (gty K) s) (hE : E1 (fun q : Nat => s.heap.size ≤ q) tC tA tP kK kV s) (hT : Two s ad1 ad2) (hX : va_X b L xs s s.heap) (hbl : b < s.heap.size) (hL : L ≤ 3072) {k : Nat} (hk : k + 6 ≤ L) (op : ∀ (x1 : Int32) M1 M2, I M1 M2 → ∃ r M1' M2', f_X9_tell 0 x1 M1 = some (r, M1') ∧ f_X10_tell 0 x1 M2 = some (r, M2') ∧ I M1' M2') (next : ∀ (M1 M2 : Mem) (H : Heap) (locs : List Loc) (ls : Array Slot), I M1 M2 → va_P D classes (gws K G1 ad1 M1) H → va_P D classes (gws K G2 ad2 M2) H → va_S (fun q : Nat => s.heap.size ≤ q) s.heap H locs → lv_has ls 4 [(0, .ref b), (1, .ref (ad1 0)), (2, .ref (ad2 0)), (3, .int (nI k))] → W p l e room_1 s m #[Value.ref b] below meth c H locs 112 15807 Q (F0 m 1670 ls [])) {M1 M2 : Mem} {H : Heap} {locs : List Loc} {ls : Array Slot} (hI : I M1 M2) (hP1 : va_P D classes (gws K G1 ad1 M1) H) (hP2 : va_P D classes (gws K G2 ad2 M2) H) (hS : va_S (fun q : Nat => s.heap.size ≤ q) s.heap H locs) (hl : lv_has ls 4 [(0, .ref b), (1, .ref (ad1 0)), (2, .ref (ad2 0)), (3, .int (nI k))]) : W p l e room_1 s m #[Value.ref b] below meth c H locs 112 15807 Q (F0 m 1565 ls []) := by
  have hx := S.1
  have hb := S.2.1
  have ht := S.2.2.2.2
  have hbA : ¬ (fun q : Nat => s.heap.size ≤ q) b := Nat.not_le.mpr hbl
  obtain ⟨r, N1, N2, e1, e2, hI2⟩ := op (xs (nI k + 1).toNatClampNeg) M1 M2 hI
  refine lv_aload_n hx hb dL_law_1565 rfl (lv_at hl 1 rfl) ?_
  refine lv_aload_n hx hb dL_law_1566 rfl (lv_at hl 0 rfl) ?_
  refine lv_iload_n hx hb dL_law_1567 rfl (lv_at hl 3 rfl) ?_
  refine lv_iconst (v := 1) hx hb dL_law_1568 (by decide) ?_
  refine lv_iadd hx hb dL_law_1569 ?_
  refine va_sld hx hb hX hbl hbA hS (sv1 hk hL) dL_law_1570 ?_
  refine q_call1 (As := [.int (xs (nI k + 1).toNatClampNeg)]) (rest := []) S hK hE hT hP1 hP2 hS (cw_L_183 ht ⟨Nat.le_of_ble_eq_true rfl, Nat.le_of_ble_eq_true rfl⟩) rfl hl.1 rfl (Nat.le_of_ble_eq_true rfl) dL_law_1571 ⟨Nat.le_of_ble_eq_true rfl, Nat.le_of_ble_eq_true rfl⟩ (c_X9_tell hT.g1 rfl e1) (fun H locs hP1 hP2 hS => ?_)
  refine lv_aload_n hx hb dL_law_1574 rfl (lv_at hl 2 rfl) ?_
  refine lv_aload_n hx hb dL_law_1575 rfl (lv_at hl 0 rfl) ?_
  refine lv_iload_n hx hb dL_law_1576 rfl (lv_at hl 3 rfl) ?_
  refine lv_iconst (v := 1) hx hb dL_law_1577 (by decide) ?_
  refine lv_iadd hx hb dL_law_1578 ?_
  refine va_sld hx hb hX hbl hbA hS (sv1 hk hL) dL_law_1579 ?_
  refine q_call2 (As := [.int (xs (nI k + 1).toNatClampNeg)]) (rest := [.int r]) S hK hT hP1 hP2 hS (cw_L_186 ht ⟨Nat.le_of_ble_eq_true rfl, Nat.le_of_ble_eq_true rfl⟩) rfl hl.1 rfl (Nat.le_of_ble_eq_true rfl) dL_law_1580 ⟨Nat.le_of_ble_eq_true rfl, Nat.le_of_ble_eq_true rfl⟩ (c_X10_tell hT.g2 rfl e2) (fun H locs hP1 hP2 hS => ?_)
  refine lv_icmp_eq (tgt := 1670) hx hb dL_law_1583 (by decide) (fun _ => ?_) (fun z => absurd rfl z)
  exact next N1 N2 H locs ls hI2 hP1 hP2 hS hl
set_option maxHeartbeats 4000000 in
set_option maxRecDepth 100000 in
theorem lc_42 {p : Program} {l : Launch} {e : Env} {s : State} {m : MethodId} {below : List Frame} {meth : Method} {c : Code} {Q : State → Prop} {b L : Nat} {xs : Nat → Int32} {D : va_G} {K : Ks} {ad1 ad2 : Nat → Nat} {tC tA tP : Nat} {kK kV : Nat → Nat} {I : Mem → Mem → Prop} (S : CallFix p m c cL_law 4 s #[Value.ref b] Tw RL) (hK : va_K D classes (gty K) s) (hE : E1 (fun q : Nat => s.heap.size ≤ q) tC tA tP kK kV s) (hT : Two s ad1 ad2) (hX : va_X b L xs s s.heap) (hbl : b < s.heap.size) (hL : L ≤ 3072) {k : Nat} (hk : k + 6 ≤ L) (op : ∀ (x1 x2 : Int32) M1 M2, I M1 M2 → ∃ r M1' M2', f_X9_check 0 x1 x2 M1 = some (r, M1') ∧ f_X10_check 0 x1 x2 M2 = some (r, M2') ∧ I M1' M2') (next : ∀ (M1 M2 : Mem) (H : Heap) (locs : List Loc) (ls : Array Slot), I M1 M2 → va_P D classes (gws K G1 ad1 M1) H → va_P D classes (gws K G2 ad2 M2) H → va_S (fun q : Nat => s.heap.size ≤ q) s.heap H locs → lv_has ls 4 [(0, .ref b), (1, .ref (ad1 0)), (2, .ref (ad2 0)), (3, .int (nI k))] → W p l e room_1 s m #[Value.ref b] below meth c H locs 112 15807 Q (F0 m 1670 ls [])) {M1 M2 : Mem} {H : Heap} {locs : List Loc} {ls : Array Slot} (hI : I M1 M2) (hP1 : va_P D classes (gws K G1 ad1 M1) H) (hP2 : va_P D classes (gws K G2 ad2 M2) H) (hS : va_S (fun q : Nat => s.heap.size ≤ q) s.heap H locs) (hl : lv_has ls 4 [(0, .ref b), (1, .ref (ad1 0)), (2, .ref (ad2 0)), (3, .int (nI k))]) : W p l e room_1 s m #[Value.ref b] below meth c H locs 112 15807 Q (F0 m 1588 ls []) := by
  have hx := S.1
  have hb := S.2.1
  have ht := S.2.2.2.2
  have hbA : ¬ (fun q : Nat => s.heap.size ≤ q) b := Nat.not_le.mpr hbl
  obtain ⟨r, N1, N2, e1, e2, hI2⟩ := op (xs (nI k + 1).toNatClampNeg) (xs (nI k + 2).toNatClampNeg) M1 M2 hI
  refine lv_aload_n hx hb dL_law_1588 rfl (lv_at hl 1 rfl) ?_
  refine lv_aload_n hx hb dL_law_1589 rfl (lv_at hl 0 rfl) ?_
  refine lv_iload_n hx hb dL_law_1590 rfl (lv_at hl 3 rfl) ?_
  refine lv_iconst (v := 1) hx hb dL_law_1591 (by decide) ?_
  refine lv_iadd hx hb dL_law_1592 ?_
  refine va_sld hx hb hX hbl hbA hS (sv1 hk hL) dL_law_1593 ?_
  refine lv_aload_n hx hb dL_law_1594 rfl (lv_at hl 0 rfl) ?_
  refine lv_iload_n hx hb dL_law_1595 rfl (lv_at hl 3 rfl) ?_
  refine lv_iconst (v := 2) hx hb dL_law_1596 (by decide) ?_
  refine lv_iadd hx hb dL_law_1597 ?_
  refine va_sld hx hb hX hbl hbA hS (sv2 hk hL) dL_law_1598 ?_
  refine q_call1 (As := [.int (xs (nI k + 1).toNatClampNeg), .int (xs (nI k + 2).toNatClampNeg)]) (rest := []) S hK hE hT hP1 hP2 hS (cw_L_187 ht ⟨Nat.le_of_ble_eq_true rfl, Nat.le_of_ble_eq_true rfl⟩) rfl hl.1 rfl (Nat.le_of_ble_eq_true rfl) dL_law_1599 ⟨Nat.le_of_ble_eq_true rfl, Nat.le_of_ble_eq_true rfl⟩ (c_X9_check hT.g1 rfl e1) (fun H locs hP1 hP2 hS => ?_)
  refine lv_aload_n hx hb dL_law_1602 rfl (lv_at hl 2 rfl) ?_
  refine lv_aload_n hx hb dL_law_1603 rfl (lv_at hl 0 rfl) ?_
  refine lv_iload_n hx hb dL_law_1604 rfl (lv_at hl 3 rfl) ?_
  refine lv_iconst (v := 1) hx hb dL_law_1605 (by decide) ?_
  refine lv_iadd hx hb dL_law_1606 ?_
  refine va_sld hx hb hX hbl hbA hS (sv1 hk hL) dL_law_1607 ?_
  refine lv_aload_n hx hb dL_law_1608 rfl (lv_at hl 0 rfl) ?_
  refine lv_iload_n hx hb dL_law_1609 rfl (lv_at hl 3 rfl) ?_
  refine lv_iconst (v := 2) hx hb dL_law_1610 (by decide) ?_
  refine lv_iadd hx hb dL_law_1611 ?_
  refine va_sld hx hb hX hbl hbA hS (sv2 hk hL) dL_law_1612 ?_
  refine q_call2 (As := [.int (xs (nI k + 1).toNatClampNeg), .int (xs (nI k + 2).toNatClampNeg)]) (rest := [.int r]) S hK hT hP1 hP2 hS (cw_L_190 ht ⟨Nat.le_of_ble_eq_true rfl, Nat.le_of_ble_eq_true rfl⟩) rfl hl.1 rfl (Nat.le_of_ble_eq_true rfl) dL_law_1613 ⟨Nat.le_of_ble_eq_true rfl, Nat.le_of_ble_eq_true rfl⟩ (c_X10_check hT.g2 rfl e2) (fun H locs hP1 hP2 hS => ?_)
  refine lv_icmp_eq (tgt := 1670) hx hb dL_law_1616 (by decide) (fun _ => ?_) (fun z => absurd rfl z)
  exact next N1 N2 H locs ls hI2 hP1 hP2 hS hl
set_option maxHeartbeats 4000000 in
set_option maxRecDepth 100000 in
theorem lc_43 {p : Program} {l : Launch} {e : Env} {s : State} {m : MethodId} {below : List Frame} {meth : Method} {c : Code} {Q : State → Prop} {b L : Nat} {xs : Nat → Int32} {D : va_G} {K : Ks} {ad1 ad2 : Nat → Nat} {tC tA tP : Nat} {kK kV : Nat → Nat} {I : Mem → Mem → Prop} (S : CallFix p m c cL_law 4 s #[Value.ref b] Tw RL) (hK : va_K D classes (gty K) s) (hE : E1 (fun q : Nat => s.heap.size ≤ q) tC tA tP kK kV s) (hT : Two s ad1 ad2) (hX : va_X b L xs s s.heap) (hbl : b < s.heap.size) (hL : L ≤ 3072) {k : Nat} (hk : k + 6 ≤ L) (op : ∀ M1 M2, I M1 M2 → ∃ r M1' M2', f_X9_keep 0  M1 = some (r, M1') ∧ f_X10_keep 0  M2 = some (r, M2') ∧ I M1' M2') (next : ∀ (M1 M2 : Mem) (H : Heap) (locs : List Loc) (ls : Array Slot), I M1 M2 → va_P D classes (gws K G1 ad1 M1) H → va_P D classes (gws K G2 ad2 M2) H → va_S (fun q : Nat => s.heap.size ≤ q) s.heap H locs → lv_has ls 4 [(0, .ref b), (1, .ref (ad1 0)), (2, .ref (ad2 0)), (3, .int (nI k))] → W p l e room_1 s m #[Value.ref b] below meth c H locs 112 15807 Q (F0 m 1670 ls [])) {M1 M2 : Mem} {H : Heap} {locs : List Loc} {ls : Array Slot} (hI : I M1 M2) (hP1 : va_P D classes (gws K G1 ad1 M1) H) (hP2 : va_P D classes (gws K G2 ad2 M2) H) (hS : va_S (fun q : Nat => s.heap.size ≤ q) s.heap H locs) (hl : lv_has ls 4 [(0, .ref b), (1, .ref (ad1 0)), (2, .ref (ad2 0)), (3, .int (nI k))]) : W p l e room_1 s m #[Value.ref b] below meth c H locs 112 15807 Q (F0 m 1621 ls []) := by
  have hx := S.1
  have hb := S.2.1
  have ht := S.2.2.2.2
  have hbA : ¬ (fun q : Nat => s.heap.size ≤ q) b := Nat.not_le.mpr hbl
  obtain ⟨r, N1, N2, e1, e2, hI2⟩ := op  M1 M2 hI
  refine lv_aload_n hx hb dL_law_1621 rfl (lv_at hl 1 rfl) ?_
  refine q_call1 (As := []) (rest := []) S hK hE hT hP1 hP2 hS (cw_L_191 ht ⟨Nat.le_of_ble_eq_true rfl, Nat.le_of_ble_eq_true rfl⟩) rfl hl.1 rfl (Nat.le_of_ble_eq_true rfl) dL_law_1622 ⟨Nat.le_of_ble_eq_true rfl, Nat.le_of_ble_eq_true rfl⟩ (c_X9_keep hT.g1 rfl e1) (fun H locs hP1 hP2 hS => ?_)
  refine lv_aload_n hx hb dL_law_1625 rfl (lv_at hl 2 rfl) ?_
  refine q_call2 (As := []) (rest := [.int r]) S hK hT hP1 hP2 hS (cw_L_194 ht ⟨Nat.le_of_ble_eq_true rfl, Nat.le_of_ble_eq_true rfl⟩) rfl hl.1 rfl (Nat.le_of_ble_eq_true rfl) dL_law_1626 ⟨Nat.le_of_ble_eq_true rfl, Nat.le_of_ble_eq_true rfl⟩ (c_X10_keep hT.g2 rfl e2) (fun H locs hP1 hP2 hS => ?_)
  refine lv_icmp_eq (tgt := 1670) hx hb dL_law_1629 (by decide) (fun _ => ?_) (fun z => absurd rfl z)
  exact next N1 N2 H locs ls hI2 hP1 hP2 hS hl
set_option maxHeartbeats 4000000 in
set_option maxRecDepth 100000 in
theorem lc_44 {p : Program} {l : Launch} {e : Env} {s : State} {m : MethodId} {below : List Frame} {meth : Method} {c : Code} {Q : State → Prop} {b L : Nat} {xs : Nat → Int32} {D : va_G} {K : Ks} {ad1 ad2 : Nat → Nat} {tC tA tP : Nat} {kK kV : Nat → Nat} {I : Mem → Mem → Prop} (S : CallFix p m c cL_law 4 s #[Value.ref b] Tw RL) (hK : va_K D classes (gty K) s) (hE : E1 (fun q : Nat => s.heap.size ≤ q) tC tA tP kK kV s) (hT : Two s ad1 ad2) (hX : va_X b L xs s s.heap) (hbl : b < s.heap.size) (hL : L ≤ 3072) {k : Nat} (hk : k + 6 ≤ L) (op : ∀ M1 M2, I M1 M2 → ∃ r M1' M2', f_X9_back 0  M1 = some (r, M1') ∧ f_X10_back 0  M2 = some (r, M2') ∧ I M1' M2') (next : ∀ (M1 M2 : Mem) (H : Heap) (locs : List Loc) (ls : Array Slot), I M1 M2 → va_P D classes (gws K G1 ad1 M1) H → va_P D classes (gws K G2 ad2 M2) H → va_S (fun q : Nat => s.heap.size ≤ q) s.heap H locs → lv_has ls 4 [(0, .ref b), (1, .ref (ad1 0)), (2, .ref (ad2 0)), (3, .int (nI k))] → W p l e room_1 s m #[Value.ref b] below meth c H locs 112 15807 Q (F0 m 1670 ls [])) {M1 M2 : Mem} {H : Heap} {locs : List Loc} {ls : Array Slot} (hI : I M1 M2) (hP1 : va_P D classes (gws K G1 ad1 M1) H) (hP2 : va_P D classes (gws K G2 ad2 M2) H) (hS : va_S (fun q : Nat => s.heap.size ≤ q) s.heap H locs) (hl : lv_has ls 4 [(0, .ref b), (1, .ref (ad1 0)), (2, .ref (ad2 0)), (3, .int (nI k))]) : W p l e room_1 s m #[Value.ref b] below meth c H locs 112 15807 Q (F0 m 1634 ls []) := by
  have hx := S.1
  have hb := S.2.1
  have ht := S.2.2.2.2
  have hbA : ¬ (fun q : Nat => s.heap.size ≤ q) b := Nat.not_le.mpr hbl
  obtain ⟨r, N1, N2, e1, e2, hI2⟩ := op  M1 M2 hI
  refine lv_aload_n hx hb dL_law_1634 rfl (lv_at hl 1 rfl) ?_
  refine q_call1 (As := []) (rest := []) S hK hE hT hP1 hP2 hS (cw_L_195 ht ⟨Nat.le_of_ble_eq_true rfl, Nat.le_of_ble_eq_true rfl⟩) rfl hl.1 rfl (Nat.le_of_ble_eq_true rfl) dL_law_1635 ⟨Nat.le_of_ble_eq_true rfl, Nat.le_of_ble_eq_true rfl⟩ (c_X9_back hT.g1 rfl e1) (fun H locs hP1 hP2 hS => ?_)
  refine lv_aload_n hx hb dL_law_1638 rfl (lv_at hl 2 rfl) ?_
  refine q_call2 (As := []) (rest := [.int r]) S hK hT hP1 hP2 hS (cw_L_198 ht ⟨Nat.le_of_ble_eq_true rfl, Nat.le_of_ble_eq_true rfl⟩) rfl hl.1 rfl (Nat.le_of_ble_eq_true rfl) dL_law_1639 ⟨Nat.le_of_ble_eq_true rfl, Nat.le_of_ble_eq_true rfl⟩ (c_X10_back hT.g2 rfl e2) (fun H locs hP1 hP2 hS => ?_)
  refine lv_icmp_eq (tgt := 1670) hx hb dL_law_1642 (by decide) (fun _ => ?_) (fun z => absurd rfl z)
  exact next N1 N2 H locs ls hI2 hP1 hP2 hS hl
set_option maxHeartbeats 4000000 in
set_option maxRecDepth 100000 in
theorem lc_45 {p : Program} {l : Launch} {e : Env} {s : State} {m : MethodId} {below : List Frame} {meth : Method} {c : Code} {Q : State → Prop} {b L : Nat} {xs : Nat → Int32} {D : va_G} {K : Ks} {ad1 ad2 : Nat → Nat} {tC tA tP : Nat} {kK kV : Nat → Nat} {I : Mem → Mem → Prop} (S : CallFix p m c cL_law 4 s #[Value.ref b] Tw RL) (hK : va_K D classes (gty K) s) (hE : E1 (fun q : Nat => s.heap.size ≤ q) tC tA tP kK kV s) (hT : Two s ad1 ad2) (hX : va_X b L xs s s.heap) (hbl : b < s.heap.size) (hL : L ≤ 3072) {k : Nat} (hk : k + 6 ≤ L) (op : ∀ (x1 : Int32) M1 M2, I M1 M2 → ∃ r M1' M2', f_X9_count 0 x1 M1 = some (r, M1') ∧ f_X10_count 0 x1 M2 = some (r, M2') ∧ I M1' M2') (next : ∀ (M1 M2 : Mem) (H : Heap) (locs : List Loc) (ls : Array Slot), I M1 M2 → va_P D classes (gws K G1 ad1 M1) H → va_P D classes (gws K G2 ad2 M2) H → va_S (fun q : Nat => s.heap.size ≤ q) s.heap H locs → lv_has ls 4 [(0, .ref b), (1, .ref (ad1 0)), (2, .ref (ad2 0)), (3, .int (nI k))] → W p l e room_1 s m #[Value.ref b] below meth c H locs 112 15807 Q (F0 m 1670 ls [])) {M1 M2 : Mem} {H : Heap} {locs : List Loc} {ls : Array Slot} (hI : I M1 M2) (hP1 : va_P D classes (gws K G1 ad1 M1) H) (hP2 : va_P D classes (gws K G2 ad2 M2) H) (hS : va_S (fun q : Nat => s.heap.size ≤ q) s.heap H locs) (hl : lv_has ls 4 [(0, .ref b), (1, .ref (ad1 0)), (2, .ref (ad2 0)), (3, .int (nI k))]) : W p l e room_1 s m #[Value.ref b] below meth c H locs 112 15807 Q (F0 m 1647 ls []) := by
  have hx := S.1
  have hb := S.2.1
  have ht := S.2.2.2.2
  have hbA : ¬ (fun q : Nat => s.heap.size ≤ q) b := Nat.not_le.mpr hbl
  obtain ⟨r, N1, N2, e1, e2, hI2⟩ := op (xs (nI k + 1).toNatClampNeg) M1 M2 hI
  refine lv_aload_n hx hb dL_law_1647 rfl (lv_at hl 1 rfl) ?_
  refine lv_aload_n hx hb dL_law_1648 rfl (lv_at hl 0 rfl) ?_
  refine lv_iload_n hx hb dL_law_1649 rfl (lv_at hl 3 rfl) ?_
  refine lv_iconst (v := 1) hx hb dL_law_1650 (by decide) ?_
  refine lv_iadd hx hb dL_law_1651 ?_
  refine va_sld hx hb hX hbl hbA hS (sv1 hk hL) dL_law_1652 ?_
  refine q_call1 (As := [.int (xs (nI k + 1).toNatClampNeg)]) (rest := []) S hK hE hT hP1 hP2 hS (cw_L_199 ht ⟨Nat.le_of_ble_eq_true rfl, Nat.le_of_ble_eq_true rfl⟩) rfl hl.1 rfl (Nat.le_of_ble_eq_true rfl) dL_law_1653 ⟨Nat.le_of_ble_eq_true rfl, Nat.le_of_ble_eq_true rfl⟩ (c_X9_count hT.g1 rfl e1) (fun H locs hP1 hP2 hS => ?_)
  refine lv_aload_n hx hb dL_law_1656 rfl (lv_at hl 2 rfl) ?_
  refine lv_aload_n hx hb dL_law_1657 rfl (lv_at hl 0 rfl) ?_
  refine lv_iload_n hx hb dL_law_1658 rfl (lv_at hl 3 rfl) ?_
  refine lv_iconst (v := 1) hx hb dL_law_1659 (by decide) ?_
  refine lv_iadd hx hb dL_law_1660 ?_
  refine va_sld hx hb hX hbl hbA hS (sv1 hk hL) dL_law_1661 ?_
  refine q_call2 (As := [.int (xs (nI k + 1).toNatClampNeg)]) (rest := [.int r]) S hK hT hP1 hP2 hS (cw_L_202 ht ⟨Nat.le_of_ble_eq_true rfl, Nat.le_of_ble_eq_true rfl⟩) rfl hl.1 rfl (Nat.le_of_ble_eq_true rfl) dL_law_1662 ⟨Nat.le_of_ble_eq_true rfl, Nat.le_of_ble_eq_true rfl⟩ (c_X10_count hT.g2 rfl e2) (fun H locs hP1 hP2 hS => ?_)
  refine lv_icmp_eq (tgt := 1670) hx hb dL_law_1665 (by decide) (fun _ => ?_) (fun z => absurd rfl z)
  exact next N1 N2 H locs ls hI2 hP1 hP2 hS hl
def AllOps (I : Mem → Mem → Prop) : Prop := (∀ (x1 : Int32) M1 M2, I M1 M2 → ∃ r M1' M2', f_X9_table 0 x1 M1 = some (r, M1') ∧ f_X10_table 0 x1 M2 = some (r, M2') ∧ I M1' M2') ∧ (∀ (x1 x2 x3 x4 x5 : Int32) M1 M2, I M1 M2 → ∃ r M1' M2', f_X9_figure 0 x1 x2 x3 x4 x5 M1 = some (r, M1') ∧ f_X10_figure 0 x1 x2 x3 x4 x5 M2 = some (r, M2') ∧ I M1' M2') ∧ (∀ (x1 x2 : Int32) M1 M2, I M1 M2 → ∃ r M1' M2', f_X9_told 0 x1 x2 M1 = some (r, M1') ∧ f_X10_told 0 x1 x2 M2 = some (r, M2') ∧ I M1' M2') ∧ (∀ (x1 x2 : Int32) M1 M2, I M1 M2 → ∃ r M1' M2', f_X9_as 0 x1 x2 M1 = some (r, M1') ∧ f_X10_as 0 x1 x2 M2 = some (r, M2') ∧ I M1' M2') ∧ (∀ (x1 x2 : Int32) M1 M2, I M1 M2 → ∃ r M1' M2', f_X9_turns 0 x1 x2 M1 = some (r, M1') ∧ f_X10_turns 0 x1 x2 M2 = some (r, M2') ∧ I M1' M2') ∧ (∀ (x1 : Int32) M1 M2, I M1 M2 → ∃ r M1' M2', f_X9_base 0 x1 M1 = some (r, M1') ∧ f_X10_base 0 x1 M2 = some (r, M2') ∧ I M1' M2') ∧ (∀ (x1 x2 x3 : Int32) M1 M2, I M1 M2 → ∃ r M1' M2', f_X9_feed 0 x1 x2 x3 M1 = some (r, M1') ∧ f_X10_feed 0 x1 x2 x3 M2 = some (r, M2') ∧ I M1' M2') ∧ (∀ (x1 : Int32) M1 M2, I M1 M2 → ∃ r M1' M2', f_X9_trim 0 x1 M1 = some (r, M1') ∧ f_X10_trim 0 x1 M2 = some (r, M2') ∧ I M1' M2') ∧ (∀ M1 M2, I M1 M2 → ∃ r M1' M2', f_X9_text 0  M1 = some (r, M1') ∧ f_X10_text 0  M2 = some (r, M2') ∧ I M1' M2') ∧ (∀ (x1 x2 : Int32) M1 M2, I M1 M2 → ∃ r M1' M2', f_X9_of 0 x1 x2 M1 = some (r, M1') ∧ f_X10_of 0 x1 x2 M2 = some (r, M2') ∧ I M1' M2') ∧ (∀ (x1 x2 : Int32) M1 M2, I M1 M2 → ∃ r M1' M2', f_X9_why 0 x1 x2 M1 = some (r, M1') ∧ f_X10_why 0 x1 x2 M2 = some (r, M2') ∧ I M1' M2') ∧ (∀ (x1 x2 : Int32) M1 M2, I M1 M2 → ∃ r M1' M2', f_X9_line 0 x1 x2 M1 = some (r, M1') ∧ f_X10_line 0 x1 x2 M2 = some (r, M2') ∧ I M1' M2') ∧ (∀ (x1 x2 x3 : Int32) M1 M2, I M1 M2 → ∃ r M1' M2', f_X9_run 0 x1 x2 x3 M1 = some (r, M1') ∧ f_X10_run 0 x1 x2 x3 M2 = some (r, M2') ∧ I M1' M2') ∧ (∀ (x1 x2 : Int32) M1 M2, I M1 M2 → ∃ r M1' M2', f_X9_soon 0 x1 x2 M1 = some (r, M1') ∧ f_X10_soon 0 x1 x2 M2 = some (r, M2') ∧ I M1' M2') ∧ (∀ M1 M2, I M1 M2 → ∃ r M1' M2', f_X9_even 0  M1 = some (r, M1') ∧ f_X10_even 0  M2 = some (r, M2') ∧ I M1' M2') ∧ (∀ (x1 : Int32) M1 M2, I M1 M2 → ∃ r M1' M2', f_X9_digit 0 x1 M1 = some (r, M1') ∧ f_X10_digit 0 x1 M2 = some (r, M2') ∧ I M1' M2') ∧ (∀ M1 M2, I M1 M2 → ∃ r M1' M2', f_X9_odd 0  M1 = some (r, M1') ∧ f_X10_odd 0  M2 = some (r, M2') ∧ I M1' M2') ∧ (∀ (x1 : Int32) M1 M2, I M1 M2 → ∃ r M1' M2', f_X9_choose 0 x1 M1 = some (r, M1') ∧ f_X10_choose 0 x1 M2 = some (r, M2') ∧ I M1' M2') ∧ (∀ (x1 x2 : Int32) M1 M2, I M1 M2 → ∃ r M1' M2', f_X9_story 0 x1 x2 M1 = some (r, M1') ∧ f_X10_story 0 x1 x2 M2 = some (r, M2') ∧ I M1' M2') ∧ (∀ M1 M2, I M1 M2 → ∃ r M1' M2', f_X9_clear 0  M1 = some (r, M1') ∧ f_X10_clear 0  M2 = some (r, M2') ∧ I M1' M2') ∧ (∀ (x1 x2 x3 : Int32) M1 M2, I M1 M2 → ∃ r M1' M2', f_X9_road 0 x1 x2 x3 M1 = some (r, M1') ∧ f_X10_road 0 x1 x2 x3 M2 = some (r, M2') ∧ I M1' M2') ∧ (∀ (x1 x2 : Int32) M1 M2, I M1 M2 → ∃ r M1' M2', f_X9_far 0 x1 x2 M1 = some (r, M1') ∧ f_X10_far 0 x1 x2 M2 = some (r, M2') ∧ I M1' M2') ∧ (∀ (x1 x2 : Int32) M1 M2, I M1 M2 → ∃ r M1' M2', f_X9_diary 0 x1 x2 M1 = some (r, M1') ∧ f_X10_diary 0 x1 x2 M2 = some (r, M2') ∧ I M1' M2') ∧ (∀ (x1 x2 x3 : Int32) M1 M2, I M1 M2 → ∃ r M1' M2', f_X9_could 0 x1 x2 x3 M1 = some (r, M1') ∧ f_X10_could 0 x1 x2 x3 M2 = some (r, M2') ∧ I M1' M2') ∧ (∀ (x1 x2 x3 : Int32) M1 M2, I M1 M2 → ∃ r M1' M2', f_X9_leaner 0 x1 x2 x3 M1 = some (r, M1') ∧ f_X10_leaner 0 x1 x2 x3 M2 = some (r, M2') ∧ I M1' M2') ∧ (∀ (x1 : Int32) M1 M2, I M1 M2 → ∃ r M1' M2', f_X9_falls 0 x1 M1 = some (r, M1') ∧ f_X10_falls 0 x1 M2 = some (r, M2') ∧ I M1' M2') ∧ (∀ (x1 : Int32) M1 M2, I M1 M2 → ∃ r M1' M2', f_X9_left 0 x1 M1 = some (r, M1') ∧ f_X10_left 0 x1 M2 = some (r, M2') ∧ I M1' M2') ∧ (∀ M1 M2, I M1 M2 → ∃ r M1' M2', f_X9_pillar 0  M1 = some (r, M1') ∧ f_X10_pillar 0  M2 = some (r, M2') ∧ I M1' M2') ∧ (∀ (x1 : Int32) M1 M2, I M1 M2 → ∃ r M1' M2', f_X9_source 0 x1 M1 = some (r, M1') ∧ f_X10_source 0 x1 M2 = some (r, M2') ∧ I M1' M2') ∧ (∀ (x1 : Int32) M1 M2, I M1 M2 → ∃ r M1' M2', f_X9_next 0 x1 M1 = some (r, M1') ∧ f_X10_next 0 x1 M2 = some (r, M2') ∧ I M1' M2') ∧ (∀ (x1 x2 x3 : Int32) M1 M2, I M1 M2 → ∃ r M1' M2', f_X9_heard 0 x1 x2 x3 M1 = some (r, M1') ∧ f_X10_heard 0 x1 x2 x3 M2 = some (r, M2') ∧ I M1' M2') ∧ (∀ (x1 : Int32) M1 M2, I M1 M2 → ∃ r M1' M2', f_X9_seed 0 x1 M1 = some (r, M1') ∧ f_X10_seed 0 x1 M2 = some (r, M2') ∧ I M1' M2') ∧ (∀ (x1 x2 x3 x4 : Int32) M1 M2, I M1 M2 → ∃ r M1' M2', f_X9_share 0 x1 x2 x3 x4 M1 = some (r, M1') ∧ f_X10_share 0 x1 x2 x3 x4 M2 = some (r, M2') ∧ I M1' M2') ∧ (∀ (x1 x2 x3 : Int32) M1 M2, I M1 M2 → ∃ r M1' M2', f_X9_sheet 0 x1 x2 x3 M1 = some (r, M1') ∧ f_X10_sheet 0 x1 x2 x3 M2 = some (r, M2') ∧ I M1' M2') ∧ (∀ (x1 x2 x3 : Int32) M1 M2, I M1 M2 → ∃ r M1' M2', f_X9_mark 0 x1 x2 x3 M1 = some (r, M1') ∧ f_X10_mark 0 x1 x2 x3 M2 = some (r, M2') ∧ I M1' M2') ∧ (∀ (x1 x2 x3 : Int32) M1 M2, I M1 M2 → ∃ r M1' M2', f_X9_print 0 x1 x2 x3 M1 = some (r, M1') ∧ f_X10_print 0 x1 x2 x3 M2 = some (r, M2') ∧ I M1' M2') ∧ (∀ (x1 x2 x3 x4 x5 : Int32) M1 M2, I M1 M2 → ∃ r M1' M2', f_X9_copy 0 x1 x2 x3 x4 x5 M1 = some (r, M1') ∧ f_X10_copy 0 x1 x2 x3 x4 x5 M2 = some (r, M2') ∧ I M1' M2') ∧ (∀ (x1 x2 x3 : Int32) M1 M2, I M1 M2 → ∃ r M1' M2', f_X9_lay 0 x1 x2 x3 M1 = some (r, M1') ∧ f_X10_lay 0 x1 x2 x3 M2 = some (r, M2') ∧ I M1' M2') ∧ (∀ (x1 x2 : Int32) M1 M2, I M1 M2 → ∃ r M1' M2', f_X9_ask 0 x1 x2 M1 = some (r, M1') ∧ f_X10_ask 0 x1 x2 M2 = some (r, M2') ∧ I M1' M2') ∧ (∀ (x1 x2 : Int32) M1 M2, I M1 M2 → ∃ r M1' M2', f_X9_item 0 x1 x2 M1 = some (r, M1') ∧ f_X10_item 0 x1 x2 M2 = some (r, M2') ∧ I M1' M2') ∧ (∀ (x1 x2 : Int32) M1 M2, I M1 M2 → ∃ r M1' M2', f_X9_rest 0 x1 x2 M1 = some (r, M1') ∧ f_X10_rest 0 x1 x2 M2 = some (r, M2') ∧ I M1' M2') ∧ (∀ (x1 : Int32) M1 M2, I M1 M2 → ∃ r M1' M2', f_X9_tell 0 x1 M1 = some (r, M1') ∧ f_X10_tell 0 x1 M2 = some (r, M2') ∧ I M1' M2') ∧ (∀ (x1 x2 : Int32) M1 M2, I M1 M2 → ∃ r M1' M2', f_X9_check 0 x1 x2 M1 = some (r, M1') ∧ f_X10_check 0 x1 x2 M2 = some (r, M2') ∧ I M1' M2') ∧ (∀ M1 M2, I M1 M2 → ∃ r M1' M2', f_X9_keep 0  M1 = some (r, M1') ∧ f_X10_keep 0  M2 = some (r, M2') ∧ I M1' M2') ∧ (∀ M1 M2, I M1 M2 → ∃ r M1' M2', f_X9_back 0  M1 = some (r, M1') ∧ f_X10_back 0  M2 = some (r, M2') ∧ I M1' M2') ∧ (∀ (x1 : Int32) M1 M2, I M1 M2 → ∃ r M1' M2', f_X9_count 0 x1 M1 = some (r, M1') ∧ f_X10_count 0 x1 M2 = some (r, M2') ∧ I M1' M2')
set_option maxHeartbeats 8000000 in
set_option maxRecDepth 100000 in
theorem law_loop {p : Program} {l : Launch} {e : Env} {s : State} {m : MethodId} {below : List Frame} {meth : Method} {c : Code} {Q : State → Prop} {b L : Nat} {xs : Nat → Int32} {D : va_G} {K : Ks} {ad1 ad2 : Nat → Nat} {tC tA tP : Nat} {kK kV : Nat → Nat} {I : Mem → Mem → Prop} (S : CallFix p m c cL_law 4 s #[Value.ref b] Tw RL) (hK : va_K D classes (gty K) s) (hE : E1 (fun q : Nat => s.heap.size ≤ q) tC tA tP kK kV s) (hT : Two s ad1 ad2) (hX : va_X b L xs s s.heap) (hbl : b < s.heap.size) (hL : L ≤ 3072) (op : AllOps I) (fin : ∀ (H : Heap) (locs : List Loc) (ls : Array Slot), va_S (fun q : Nat => s.heap.size ≤ q) s.heap H locs → W p l e room_1 s m #[Value.ref b] below meth c H locs 112 15807 Q (F0 m 1676 ls [])) : ∀ (n k : Nat) (M1 M2 : Mem) (H : Heap) (locs : List Loc) (ls : Array Slot), k ≤ L + 6 → L + 7 ≤ k + n → I M1 M2 → va_P D classes (gws K G1 ad1 M1) H → va_P D classes (gws K G2 ad2 M2) H → va_S (fun q : Nat => s.heap.size ≤ q) s.heap H locs → lv_has ls 4 [(0, .ref b), (1, .ref (ad1 0)), (2, .ref (ad2 0)), (3, .int (nI k))] → W p l e room_1 s m #[Value.ref b] below meth c H locs 112 15807 Q (F0 m 18 ls []) := by
  have hx := S.1
  have hb := S.2.1
  have ht := S.2.2.2.2
  have hbA : ¬ (fun q : Nat => s.heap.size ≤ q) b := Nat.not_le.mpr hbl
  intro n
  induction n with
  | zero => intro k M1 M2 H locs ls h1 h2; omega
  | succ n ih =>
    intro k M1 M2 H locs ls h1 h2 hI hP1 hP2 hS hl
    refine lv_iload_n hx hb dL_law_18 rfl (lv_at hl 3 rfl) ?_
    refine lv_aload_n hx hb dL_law_19 rfl (lv_at hl 0 rfl) ?_
    refine va_slen hx hb hX hbl hbA hS dL_law_20 ?_
    refine lv_bipush (v := 6) hx hb dL_law_21 (by decide) ?_
    refine lv_isub hx hb dL_law_23 ?_
    refine lv_icmp_gt (tgt := 1676) hx hb dL_law_24 (by decide) (fun _ => ?_) (fun cg => ?_)
    · exact fin H locs ls hS
    · have hk : k + 6 ≤ L := by
        have h3 : (Int32.ofNat L - 6).toInt = (L : Int) - 6 := pk_sub_toInt (a := L) (b := 6) (by omega) (by decide)
        have h4 : (nI k).toInt = (k : Int) := nI_toInt (by omega)
        have h5 : ¬ (Int32.ofNat L - 6).toInt < (nI k).toInt := fun z => cg (Int32.lt_iff_toInt_lt.mpr z)
        omega
      have next : ∀ (M1 M2 : Mem) (H : Heap) (locs : List Loc) (ls : Array Slot), I M1 M2 → va_P D classes (gws K G1 ad1 M1) H → va_P D classes (gws K G2 ad2 M2) H → va_S (fun q : Nat => s.heap.size ≤ q) s.heap H locs → lv_has ls 4 [(0, .ref b), (1, .ref (ad1 0)), (2, .ref (ad2 0)), (3, .int (nI k))] → W p l e room_1 s m #[Value.ref b] below meth c H locs 112 15807 Q (F0 m 1670 ls []) := by
        intro M1 M2 H locs ls hI hP1 hP2 hS hl
        refine lv_iinc (v := nI (k + 6)) (lv' := [(3, .int (nI (k + 6))), (0, .ref b), (1, .ref (ad1 0)), (2, .ref (ad2 0))]) hx hb dL_law_1670 hl (k := 3) rfl (nI_add k 6) (by decide) rfl (fun ls hl => ?_)
        refine lv_goto (tgt := 18) hx hb dL_law_1673 (by decide) ?_
        exact ih (k + 6) M1 M2 H locs ls (by omega) (by omega) hI hP1 hP2 hS (lv_sub hl [1, 2, 3, 0] rfl)
      refine lv_aload_n hx hb dL_law_27 rfl (lv_at hl 0 rfl) ?_
      refine lv_iload_n hx hb dL_law_28 rfl (lv_at hl 3 rfl) ?_
      refine va_sld hx hb hX hbl hbA hS (sv0 hk hL) dL_law_29 ?_
      refine lv_bipush (v := 63) hx hb dL_law_30 (by decide) ?_
      refine lv_iand hx hb dL_law_32 ?_
      refine lv_topi (fun y _ => ?_)
      by_cases e0 : y = 0
      · refine lv_tableIn (x := y) (tgt := 232) hx hb dL_law_33 (by rw [e0]; decide) (by rw [e0]; decide) (by rw [e0]; rfl) (by decide) ?_
        exact lc_0 S hK hE hT hX hbl hL hk op.1 next hI hP1 hP2 hS hl
      by_cases e1 : y = 1
      · refine lv_tableIn (x := y) (tgt := 255) hx hb dL_law_33 (by rw [e1]; decide) (by rw [e1]; decide) (by rw [e1]; rfl) (by decide) ?_
        exact lc_1 S hK hE hT hX hbl hL hk op.2.1 next hI hP1 hP2 hS hl
      by_cases e2 : y = 2
      · refine lv_tableIn (x := y) (tgt := 318) hx hb dL_law_33 (by rw [e2]; decide) (by rw [e2]; decide) (by rw [e2]; rfl) (by decide) ?_
        exact lc_2 S hK hE hT hX hbl hL hk op.2.2.1 next hI hP1 hP2 hS hl
      by_cases e3 : y = 3
      · refine lv_tableIn (x := y) (tgt := 351) hx hb dL_law_33 (by rw [e3]; decide) (by rw [e3]; decide) (by rw [e3]; rfl) (by decide) ?_
        exact lc_3 S hK hE hT hX hbl hL hk op.2.2.2.1 next hI hP1 hP2 hS hl
      by_cases e4 : y = 4
      · refine lv_tableIn (x := y) (tgt := 384) hx hb dL_law_33 (by rw [e4]; decide) (by rw [e4]; decide) (by rw [e4]; rfl) (by decide) ?_
        exact lc_4 S hK hE hT hX hbl hL hk op.2.2.2.2.1 next hI hP1 hP2 hS hl
      by_cases e5 : y = 5
      · refine lv_tableIn (x := y) (tgt := 417) hx hb dL_law_33 (by rw [e5]; decide) (by rw [e5]; decide) (by rw [e5]; rfl) (by decide) ?_
        exact lc_5 S hK hE hT hX hbl hL hk op.2.2.2.2.2.1 next hI hP1 hP2 hS hl
      by_cases e6 : y = 6
      · refine lv_tableIn (x := y) (tgt := 440) hx hb dL_law_33 (by rw [e6]; decide) (by rw [e6]; decide) (by rw [e6]; rfl) (by decide) ?_
        exact lc_6 S hK hE hT hX hbl hL hk op.2.2.2.2.2.2.1 next hI hP1 hP2 hS hl
      by_cases e7 : y = 7
      · refine lv_tableIn (x := y) (tgt := 483) hx hb dL_law_33 (by rw [e7]; decide) (by rw [e7]; decide) (by rw [e7]; rfl) (by decide) ?_
        exact lc_7 S hK hE hT hX hbl hL hk op.2.2.2.2.2.2.2.1 next hI hP1 hP2 hS hl
      by_cases e8 : y = 8
      · refine lv_tableIn (x := y) (tgt := 506) hx hb dL_law_33 (by rw [e8]; decide) (by rw [e8]; decide) (by rw [e8]; rfl) (by decide) ?_
        exact lc_8 S hK hE hT hX hbl hL hk op.2.2.2.2.2.2.2.2.1 next hI hP1 hP2 hS hl
      by_cases e9 : y = 9
      · refine lv_tableIn (x := y) (tgt := 519) hx hb dL_law_33 (by rw [e9]; decide) (by rw [e9]; decide) (by rw [e9]; rfl) (by decide) ?_
        exact lc_9 S hK hE hT hX hbl hL hk op.2.2.2.2.2.2.2.2.2.1 next hI hP1 hP2 hS hl
      by_cases e10 : y = 10
      · refine lv_tableIn (x := y) (tgt := 552) hx hb dL_law_33 (by rw [e10]; decide) (by rw [e10]; decide) (by rw [e10]; rfl) (by decide) ?_
        exact lc_10 S hK hE hT hX hbl hL hk op.2.2.2.2.2.2.2.2.2.2.1 next hI hP1 hP2 hS hl
      by_cases e11 : y = 11
      · refine lv_tableIn (x := y) (tgt := 585) hx hb dL_law_33 (by rw [e11]; decide) (by rw [e11]; decide) (by rw [e11]; rfl) (by decide) ?_
        exact lc_11 S hK hE hT hX hbl hL hk op.2.2.2.2.2.2.2.2.2.2.2.1 next hI hP1 hP2 hS hl
      by_cases e12 : y = 12
      · refine lv_tableIn (x := y) (tgt := 618) hx hb dL_law_33 (by rw [e12]; decide) (by rw [e12]; decide) (by rw [e12]; rfl) (by decide) ?_
        exact lc_12 S hK hE hT hX hbl hL hk op.2.2.2.2.2.2.2.2.2.2.2.2.1 next hI hP1 hP2 hS hl
      by_cases e13 : y = 13
      · refine lv_tableIn (x := y) (tgt := 661) hx hb dL_law_33 (by rw [e13]; decide) (by rw [e13]; decide) (by rw [e13]; rfl) (by decide) ?_
        exact lc_13 S hK hE hT hX hbl hL hk op.2.2.2.2.2.2.2.2.2.2.2.2.2.1 next hI hP1 hP2 hS hl
      by_cases e14 : y = 14
      · refine lv_tableIn (x := y) (tgt := 694) hx hb dL_law_33 (by rw [e14]; decide) (by rw [e14]; decide) (by rw [e14]; rfl) (by decide) ?_
        exact lc_14 S hK hE hT hX hbl hL hk op.2.2.2.2.2.2.2.2.2.2.2.2.2.2.1 next hI hP1 hP2 hS hl
      by_cases e15 : y = 15
      · refine lv_tableIn (x := y) (tgt := 707) hx hb dL_law_33 (by rw [e15]; decide) (by rw [e15]; decide) (by rw [e15]; rfl) (by decide) ?_
        exact lc_15 S hK hE hT hX hbl hL hk op.2.2.2.2.2.2.2.2.2.2.2.2.2.2.2.1 next hI hP1 hP2 hS hl
      by_cases e16 : y = 16
      · refine lv_tableIn (x := y) (tgt := 730) hx hb dL_law_33 (by rw [e16]; decide) (by rw [e16]; decide) (by rw [e16]; rfl) (by decide) ?_
        exact lc_16 S hK hE hT hX hbl hL hk op.2.2.2.2.2.2.2.2.2.2.2.2.2.2.2.2.1 next hI hP1 hP2 hS hl
      by_cases e17 : y = 17
      · refine lv_tableIn (x := y) (tgt := 743) hx hb dL_law_33 (by rw [e17]; decide) (by rw [e17]; decide) (by rw [e17]; rfl) (by decide) ?_
        exact lc_17 S hK hE hT hX hbl hL hk op.2.2.2.2.2.2.2.2.2.2.2.2.2.2.2.2.2.1 next hI hP1 hP2 hS hl
      by_cases e18 : y = 18
      · refine lv_tableIn (x := y) (tgt := 766) hx hb dL_law_33 (by rw [e18]; decide) (by rw [e18]; decide) (by rw [e18]; rfl) (by decide) ?_
        exact lc_18 S hK hE hT hX hbl hL hk op.2.2.2.2.2.2.2.2.2.2.2.2.2.2.2.2.2.2.1 next hI hP1 hP2 hS hl
      by_cases e19 : y = 19
      · refine lv_tableIn (x := y) (tgt := 799) hx hb dL_law_33 (by rw [e19]; decide) (by rw [e19]; decide) (by rw [e19]; rfl) (by decide) ?_
        exact lc_19 S hK hE hT hX hbl hL hk op.2.2.2.2.2.2.2.2.2.2.2.2.2.2.2.2.2.2.2.1 next hI hP1 hP2 hS hl
      by_cases e20 : y = 20
      · refine lv_tableIn (x := y) (tgt := 812) hx hb dL_law_33 (by rw [e20]; decide) (by rw [e20]; decide) (by rw [e20]; rfl) (by decide) ?_
        exact lc_20 S hK hE hT hX hbl hL hk op.2.2.2.2.2.2.2.2.2.2.2.2.2.2.2.2.2.2.2.2.1 next hI hP1 hP2 hS hl
      by_cases e21 : y = 21
      · refine lv_tableIn (x := y) (tgt := 855) hx hb dL_law_33 (by rw [e21]; decide) (by rw [e21]; decide) (by rw [e21]; rfl) (by decide) ?_
        exact lc_21 S hK hE hT hX hbl hL hk op.2.2.2.2.2.2.2.2.2.2.2.2.2.2.2.2.2.2.2.2.2.1 next hI hP1 hP2 hS hl
      by_cases e22 : y = 22
      · refine lv_tableIn (x := y) (tgt := 888) hx hb dL_law_33 (by rw [e22]; decide) (by rw [e22]; decide) (by rw [e22]; rfl) (by decide) ?_
        exact lc_22 S hK hE hT hX hbl hL hk op.2.2.2.2.2.2.2.2.2.2.2.2.2.2.2.2.2.2.2.2.2.2.1 next hI hP1 hP2 hS hl
      by_cases e23 : y = 23
      · refine lv_tableIn (x := y) (tgt := 921) hx hb dL_law_33 (by rw [e23]; decide) (by rw [e23]; decide) (by rw [e23]; rfl) (by decide) ?_
        exact lc_23 S hK hE hT hX hbl hL hk op.2.2.2.2.2.2.2.2.2.2.2.2.2.2.2.2.2.2.2.2.2.2.2.1 next hI hP1 hP2 hS hl
      by_cases e24 : y = 24
      · refine lv_tableIn (x := y) (tgt := 964) hx hb dL_law_33 (by rw [e24]; decide) (by rw [e24]; decide) (by rw [e24]; rfl) (by decide) ?_
        exact lc_24 S hK hE hT hX hbl hL hk op.2.2.2.2.2.2.2.2.2.2.2.2.2.2.2.2.2.2.2.2.2.2.2.2.1 next hI hP1 hP2 hS hl
      by_cases e25 : y = 25
      · refine lv_tableIn (x := y) (tgt := 1007) hx hb dL_law_33 (by rw [e25]; decide) (by rw [e25]; decide) (by rw [e25]; rfl) (by decide) ?_
        exact lc_25 S hK hE hT hX hbl hL hk op.2.2.2.2.2.2.2.2.2.2.2.2.2.2.2.2.2.2.2.2.2.2.2.2.2.1 next hI hP1 hP2 hS hl
      by_cases e26 : y = 26
      · refine lv_tableIn (x := y) (tgt := 1030) hx hb dL_law_33 (by rw [e26]; decide) (by rw [e26]; decide) (by rw [e26]; rfl) (by decide) ?_
        exact lc_26 S hK hE hT hX hbl hL hk op.2.2.2.2.2.2.2.2.2.2.2.2.2.2.2.2.2.2.2.2.2.2.2.2.2.2.1 next hI hP1 hP2 hS hl
      by_cases e27 : y = 27
      · refine lv_tableIn (x := y) (tgt := 1053) hx hb dL_law_33 (by rw [e27]; decide) (by rw [e27]; decide) (by rw [e27]; rfl) (by decide) ?_
        exact lc_27 S hK hE hT hX hbl hL hk op.2.2.2.2.2.2.2.2.2.2.2.2.2.2.2.2.2.2.2.2.2.2.2.2.2.2.2.1 next hI hP1 hP2 hS hl
      by_cases e28 : y = 28
      · refine lv_tableIn (x := y) (tgt := 1066) hx hb dL_law_33 (by rw [e28]; decide) (by rw [e28]; decide) (by rw [e28]; rfl) (by decide) ?_
        exact lc_28 S hK hE hT hX hbl hL hk op.2.2.2.2.2.2.2.2.2.2.2.2.2.2.2.2.2.2.2.2.2.2.2.2.2.2.2.2.1 next hI hP1 hP2 hS hl
      by_cases e29 : y = 29
      · refine lv_tableIn (x := y) (tgt := 1089) hx hb dL_law_33 (by rw [e29]; decide) (by rw [e29]; decide) (by rw [e29]; rfl) (by decide) ?_
        exact lc_29 S hK hE hT hX hbl hL hk op.2.2.2.2.2.2.2.2.2.2.2.2.2.2.2.2.2.2.2.2.2.2.2.2.2.2.2.2.2.1 next hI hP1 hP2 hS hl
      by_cases e30 : y = 30
      · refine lv_tableIn (x := y) (tgt := 1112) hx hb dL_law_33 (by rw [e30]; decide) (by rw [e30]; decide) (by rw [e30]; rfl) (by decide) ?_
        exact lc_30 S hK hE hT hX hbl hL hk op.2.2.2.2.2.2.2.2.2.2.2.2.2.2.2.2.2.2.2.2.2.2.2.2.2.2.2.2.2.2.1 next hI hP1 hP2 hS hl
      by_cases e31 : y = 31
      · refine lv_tableIn (x := y) (tgt := 1155) hx hb dL_law_33 (by rw [e31]; decide) (by rw [e31]; decide) (by rw [e31]; rfl) (by decide) ?_
        exact lc_31 S hK hE hT hX hbl hL hk op.2.2.2.2.2.2.2.2.2.2.2.2.2.2.2.2.2.2.2.2.2.2.2.2.2.2.2.2.2.2.2.1 next hI hP1 hP2 hS hl
      by_cases e32 : y = 32
      · refine lv_tableIn (x := y) (tgt := 1178) hx hb dL_law_33 (by rw [e32]; decide) (by rw [e32]; decide) (by rw [e32]; rfl) (by decide) ?_
        exact lc_32 S hK hE hT hX hbl hL hk op.2.2.2.2.2.2.2.2.2.2.2.2.2.2.2.2.2.2.2.2.2.2.2.2.2.2.2.2.2.2.2.2.1 next hI hP1 hP2 hS hl
      by_cases e33 : y = 33
      · refine lv_tableIn (x := y) (tgt := 1231) hx hb dL_law_33 (by rw [e33]; decide) (by rw [e33]; decide) (by rw [e33]; rfl) (by decide) ?_
        exact lc_33 S hK hE hT hX hbl hL hk op.2.2.2.2.2.2.2.2.2.2.2.2.2.2.2.2.2.2.2.2.2.2.2.2.2.2.2.2.2.2.2.2.2.1 next hI hP1 hP2 hS hl
      by_cases e34 : y = 34
      · refine lv_tableIn (x := y) (tgt := 1274) hx hb dL_law_33 (by rw [e34]; decide) (by rw [e34]; decide) (by rw [e34]; rfl) (by decide) ?_
        exact lc_34 S hK hE hT hX hbl hL hk op.2.2.2.2.2.2.2.2.2.2.2.2.2.2.2.2.2.2.2.2.2.2.2.2.2.2.2.2.2.2.2.2.2.2.1 next hI hP1 hP2 hS hl
      by_cases e35 : y = 35
      · refine lv_tableIn (x := y) (tgt := 1317) hx hb dL_law_33 (by rw [e35]; decide) (by rw [e35]; decide) (by rw [e35]; rfl) (by decide) ?_
        exact lc_35 S hK hE hT hX hbl hL hk op.2.2.2.2.2.2.2.2.2.2.2.2.2.2.2.2.2.2.2.2.2.2.2.2.2.2.2.2.2.2.2.2.2.2.2.1 next hI hP1 hP2 hS hl
      by_cases e36 : y = 36
      · refine lv_tableIn (x := y) (tgt := 1360) hx hb dL_law_33 (by rw [e36]; decide) (by rw [e36]; decide) (by rw [e36]; rfl) (by decide) ?_
        exact lc_36 S hK hE hT hX hbl hL hk op.2.2.2.2.2.2.2.2.2.2.2.2.2.2.2.2.2.2.2.2.2.2.2.2.2.2.2.2.2.2.2.2.2.2.2.2.1 next hI hP1 hP2 hS hl
      by_cases e37 : y = 37
      · refine lv_tableIn (x := y) (tgt := 1423) hx hb dL_law_33 (by rw [e37]; decide) (by rw [e37]; decide) (by rw [e37]; rfl) (by decide) ?_
        exact lc_37 S hK hE hT hX hbl hL hk op.2.2.2.2.2.2.2.2.2.2.2.2.2.2.2.2.2.2.2.2.2.2.2.2.2.2.2.2.2.2.2.2.2.2.2.2.2.1 next hI hP1 hP2 hS hl
      by_cases e38 : y = 38
      · refine lv_tableIn (x := y) (tgt := 1466) hx hb dL_law_33 (by rw [e38]; decide) (by rw [e38]; decide) (by rw [e38]; rfl) (by decide) ?_
        exact lc_38 S hK hE hT hX hbl hL hk op.2.2.2.2.2.2.2.2.2.2.2.2.2.2.2.2.2.2.2.2.2.2.2.2.2.2.2.2.2.2.2.2.2.2.2.2.2.2.1 next hI hP1 hP2 hS hl
      by_cases e39 : y = 39
      · refine lv_tableIn (x := y) (tgt := 1499) hx hb dL_law_33 (by rw [e39]; decide) (by rw [e39]; decide) (by rw [e39]; rfl) (by decide) ?_
        exact lc_39 S hK hE hT hX hbl hL hk op.2.2.2.2.2.2.2.2.2.2.2.2.2.2.2.2.2.2.2.2.2.2.2.2.2.2.2.2.2.2.2.2.2.2.2.2.2.2.2.1 next hI hP1 hP2 hS hl
      by_cases e40 : y = 40
      · refine lv_tableIn (x := y) (tgt := 1532) hx hb dL_law_33 (by rw [e40]; decide) (by rw [e40]; decide) (by rw [e40]; rfl) (by decide) ?_
        exact lc_40 S hK hE hT hX hbl hL hk op.2.2.2.2.2.2.2.2.2.2.2.2.2.2.2.2.2.2.2.2.2.2.2.2.2.2.2.2.2.2.2.2.2.2.2.2.2.2.2.2.1 next hI hP1 hP2 hS hl
      by_cases e41 : y = 41
      · refine lv_tableIn (x := y) (tgt := 1565) hx hb dL_law_33 (by rw [e41]; decide) (by rw [e41]; decide) (by rw [e41]; rfl) (by decide) ?_
        exact lc_41 S hK hE hT hX hbl hL hk op.2.2.2.2.2.2.2.2.2.2.2.2.2.2.2.2.2.2.2.2.2.2.2.2.2.2.2.2.2.2.2.2.2.2.2.2.2.2.2.2.2.1 next hI hP1 hP2 hS hl
      by_cases e42 : y = 42
      · refine lv_tableIn (x := y) (tgt := 1588) hx hb dL_law_33 (by rw [e42]; decide) (by rw [e42]; decide) (by rw [e42]; rfl) (by decide) ?_
        exact lc_42 S hK hE hT hX hbl hL hk op.2.2.2.2.2.2.2.2.2.2.2.2.2.2.2.2.2.2.2.2.2.2.2.2.2.2.2.2.2.2.2.2.2.2.2.2.2.2.2.2.2.2.1 next hI hP1 hP2 hS hl
      by_cases e43 : y = 43
      · refine lv_tableIn (x := y) (tgt := 1621) hx hb dL_law_33 (by rw [e43]; decide) (by rw [e43]; decide) (by rw [e43]; rfl) (by decide) ?_
        exact lc_43 S hK hE hT hX hbl hL hk op.2.2.2.2.2.2.2.2.2.2.2.2.2.2.2.2.2.2.2.2.2.2.2.2.2.2.2.2.2.2.2.2.2.2.2.2.2.2.2.2.2.2.2.1 next hI hP1 hP2 hS hl
      by_cases e44 : y = 44
      · refine lv_tableIn (x := y) (tgt := 1634) hx hb dL_law_33 (by rw [e44]; decide) (by rw [e44]; decide) (by rw [e44]; rfl) (by decide) ?_
        exact lc_44 S hK hE hT hX hbl hL hk op.2.2.2.2.2.2.2.2.2.2.2.2.2.2.2.2.2.2.2.2.2.2.2.2.2.2.2.2.2.2.2.2.2.2.2.2.2.2.2.2.2.2.2.2.1 next hI hP1 hP2 hS hl
      by_cases e45 : y = 45
      · refine lv_tableIn (x := y) (tgt := 1647) hx hb dL_law_33 (by rw [e45]; decide) (by rw [e45]; decide) (by rw [e45]; rfl) (by decide) ?_
        exact lc_45 S hK hE hT hX hbl hL hk op.2.2.2.2.2.2.2.2.2.2.2.2.2.2.2.2.2.2.2.2.2.2.2.2.2.2.2.2.2.2.2.2.2.2.2.2.2.2.2.2.2.2.2.2.2 next hI hP1 hP2 hS hl
      refine lv_tableOut (x := y) (tgt := 1670) hx hb dL_law_33 (by have q0 := lv_neT (a := 0) e0 (by decide); have q1 := lv_neT (a := 1) e1 (by decide); have q2 := lv_neT (a := 2) e2 (by decide); have q3 := lv_neT (a := 3) e3 (by decide); have q4 := lv_neT (a := 4) e4 (by decide); have q5 := lv_neT (a := 5) e5 (by decide); have q6 := lv_neT (a := 6) e6 (by decide); have q7 := lv_neT (a := 7) e7 (by decide); have q8 := lv_neT (a := 8) e8 (by decide); have q9 := lv_neT (a := 9) e9 (by decide); have q10 := lv_neT (a := 10) e10 (by decide); have q11 := lv_neT (a := 11) e11 (by decide); have q12 := lv_neT (a := 12) e12 (by decide); have q13 := lv_neT (a := 13) e13 (by decide); have q14 := lv_neT (a := 14) e14 (by decide); have q15 := lv_neT (a := 15) e15 (by decide); have q16 := lv_neT (a := 16) e16 (by decide); have q17 := lv_neT (a := 17) e17 (by decide); have q18 := lv_neT (a := 18) e18 (by decide); have q19 := lv_neT (a := 19) e19 (by decide); have q20 := lv_neT (a := 20) e20 (by decide); have q21 := lv_neT (a := 21) e21 (by decide); have q22 := lv_neT (a := 22) e22 (by decide); have q23 := lv_neT (a := 23) e23 (by decide); have q24 := lv_neT (a := 24) e24 (by decide); have q25 := lv_neT (a := 25) e25 (by decide); have q26 := lv_neT (a := 26) e26 (by decide); have q27 := lv_neT (a := 27) e27 (by decide); have q28 := lv_neT (a := 28) e28 (by decide); have q29 := lv_neT (a := 29) e29 (by decide); have q30 := lv_neT (a := 30) e30 (by decide); have q31 := lv_neT (a := 31) e31 (by decide); have q32 := lv_neT (a := 32) e32 (by decide); have q33 := lv_neT (a := 33) e33 (by decide); have q34 := lv_neT (a := 34) e34 (by decide); have q35 := lv_neT (a := 35) e35 (by decide); have q36 := lv_neT (a := 36) e36 (by decide); have q37 := lv_neT (a := 37) e37 (by decide); have q38 := lv_neT (a := 38) e38 (by decide); have q39 := lv_neT (a := 39) e39 (by decide); have q40 := lv_neT (a := 40) e40 (by decide); have q41 := lv_neT (a := 41) e41 (by decide); have q42 := lv_neT (a := 42) e42 (by decide); have q43 := lv_neT (a := 43) e43 (by decide); have q44 := lv_neT (a := 44) e44 (by decide); have q45 := lv_neT (a := 45) e45 (by decide); omega) (by decide) ?_
      exact next M1 M2 H locs ls hI hP1 hP2 hS hl
