/-! text -/
def pB (M : Mem) : Option (Int32 × Mem) :=
    bd (f_X10_goesOn 0 M) fun _ M =>
    bd (f_X10_key 0 M) fun x6 M =>
    jn (fun (v7 : Int32) (M : Mem) =>
      jn (fun (v9 : Int32) (M : Mem) =>
        mm (up M 0 13 0) fun M =>
        if v9 = 0 then
          some ((-1), M)
        else
          some (x6, M)
      ) fun k10 =>
      if v7 = 0 then
        k10 v7 M
      else
        bd (f_X10_goesOn 0 M) fun _ M =>
        bd (f_X10_either 0 x6 M) fun x12 M =>
        if x12 = 0 then
          k10 0 M
        else
          vv (M 0 16) fun x13 =>
          if x13 = 0 then
            k10 1 M
          else
            k10 0 M
    ) fun k8 =>
    if x6 < 0 then
      k8 0 M
    else
      k8 1 M
theorem ta_eq (p : Int32) (M : Mem) : f_X10_textAt 0 p M = some (500 + 200 * p, M) := rfl
theorem pa_eq {N : Mem} {nX L : Nat} (h2 : N 1 2 = nI nX) (hX : nX ≤ 14) (hL : L = if nX < 14 then 504 + 200 * nX else 3310) : f_X10_parse 0 N = pB (up (up (up (up (up (up (up N 0 15 0) 0 16 3) 0 19 0) 0 20 0) 0 21 0) 0 23 0) 0 22 (nI L)) := by
  unfold f_X10_parse
  rw [mm_e, mm_e, mm_e, mm_e, mm_e, mm_e, vv_e, e2_0_0]
  have hr : (up (up (up (up (up (up N 0 15 0) 0 16 3) 0 19 0) 0 20 0) 0 21 0) 0 23 0) 1 2 = nI nX := by
    rw [up_ne (by decide), up_ne (by decide), up_ne (by decide), up_ne (by decide), up_ne (by decide), up_ne (by decide)]; exact h2
  generalize (up (up (up (up (up (up N 0 15 0) 0 16 3) 0 19 0) 0 20 0) 0 21 0) 0 23 0) = N1 at hr
  refine (ld_n (i := 2) 2 rfl (by decide) (by decide)).trans ?_
  show (jn _ _) = _
  rw [jn_e, hr]
  by_cases h14 : nX < 14
  · rw [if_pos h14] at hL
    rw [if_pos (show nI nX < 14 from nI_lt (a := nX) (b := 14) (by omega) (by decide)), vv_e]
    refine (ld_n (i := 2) 2 rfl (by decide) (by decide)).trans ?_
    show (bd (f_X10_textAt 0 (N1 1 2) N1) _) = _
    rw [ta_eq, bd_e, hr, show (500 : Int32) + 200 * nI nX + 4 = nI L by
      rw [show (500 : Int32) + 200 * nI nX + 4 = nI 500 + nI 200 * nI nX + nI 4 from rfl, pk_mul, nI_add, nI_add, hL]
      exact congrArg nI (by omega)]
    show (mm (up N1 0 22 (nI L)) _) = _
    rw [mm_e]
    rfl
  · rw [if_neg h14] at hL
    rw [if_neg (show ¬ nI nX < 14 from nI_nlt (a := nX) (b := 14) (by omega) (by omega))]
    show (mm (up N1 0 22 3310) _) = _
    rw [mm_e, hL]
    rfl
def FP (L : Nat) (N N' : Mem) : Prop := (∀ q, q ≠ 0 → q ≠ 1 → N' q = N q) ∧ (∀ f, f < 13 ∨ 23 < f → N' 0 f = N 0 f) ∧ N' 0 13 = nI 0 ∧ ∀ j, j < L ∨ L + 192 ≤ j → N' 1 j = N 1 j
theorem FM.fp {L : Nat} {N N' : Mem} (h : FM L N N' 0) : FP L N (up N' 0 13 0) := ⟨fun q h0 h1 => by rw [up_ne h0]; exact h.1 q h0 h1, fun f hf => by rw [up_k _ _ _ _ _ (by omega)]; exact h.2.1 f (by omega), up_same _ _ _ _, fun j hj => by rw [up_ne (by decide)]; exact h.2.2 j (by omega)⟩
theorem reads {n nX L : Nat} {B : Nat → Nat} {M N : Mem} (hC : BC n B M) (hM : BM n B N) (h2 : N 1 2 = nI nX) (hX : nX ≤ 14) (hL : L = if nX < 14 then 504 + 200 * nX else 3310) :
    ∃ r M' r' N', f_X7_readText 61 M = some (r, M') ∧ f_X10_parse 0 N = some (r', N') ∧ FC0 M M' ∧ FP L N N' ∧
      ((∃ a', a' ≤ 96 ∧ M' 61 2 = nI a' ∧ r' = -nI 1 ∧ N' 0 14 = nI a') ∨
       (M' 61 2 = -nI 1 ∧ ∃ kc km lv d, ((kc = 0 ∧ km < 12) ∨ (kc = 1 ∧ km = 12) ∨ (kc = 2 ∧ km = 13)) ∧ r' = nI km ∧ M' 61 3 = nI kc ∧ ((kc = 0 ∧ M' 61 4 = nI km) ∨ (kc ≠ 0 ∧ M' 61 4 = -1000000005)) ∧ M' 61 5 = nI lv ∧ N' 0 23 = nI lv ∧ M' 61 7 = nI d ∧ N' 0 21 = nI d ∧ d ≤ 96 ∧ Sg L kc M' N' 0 d)) := by
  have hLb : L + 192 ≤ 3510 := by
    by_cases h14 : nX < 14
    · rw [if_pos h14] at hL; omega
    · rw [if_neg h14] at hL; omega
  rw [pa_eq h2 hX hL]
  have FCs : FC0 M (up (up (up (up (up M 61 2 (-1)) 61 7 0) 61 5 0) 61 9 0) 61 10 3) := FC0.u (FC0.u (FC0.u (FC0.u (FC0.u (fun _ _ _ => rfl)))))
  have FMs : FM L N (up (up (up (up (up (up (up N 0 15 0) 0 16 3) 0 19 0) 0 20 0) 0 21 0) 0 23 0) 0 22 (nI L)) 0 := ((((((fm_0 (by omega)).t0 (fm_0 (by omega))).t0 (fm_0 (by omega))).t0 (fm_0 (by omega))).t0 (fm_0 (by omega))).t0 (fm_0 (by omega))).t0 (fm_0 (by omega))
  have hC1 : BC n B (up (up (up (up (up M 61 2 (-1)) 61 7 0) 61 5 0) 61 9 0) 61 10 3) := by
    obtain ⟨h1, h2, h3⟩ := hC
    refine ⟨h1, ?_, fun j hj => ?_⟩
    · rw [up_k _ _ _ _ _ (by decide), up_k _ _ _ _ _ (by decide), up_k _ _ _ _ _ (by decide), up_k _ _ _ _ _ (by decide), up_k _ _ _ _ _ (by decide)]; exact h2
    · rw [FCs 62 (by decide) (by decide)]; exact h3 j hj
  have hM1 : BM n B (up (up (up (up (up (up (up N 0 15 0) 0 16 3) 0 19 0) 0 20 0) 0 21 0) 0 23 0) 0 22 (nI L)) := by
    obtain ⟨h1, h2, h3⟩ := hM
    refine ⟨h1, ?_, fun j hj => ?_⟩
    · rw [FMs.2.1 13 (by decide)]; exact h2
    · rw [FMs.1 12 (by decide) (by decide)]; exact h3 j hj
  have c2 : up (up (up (up (up M 61 2 (-1)) 61 7 0) 61 5 0) 61 9 0) 61 10 3 61 2 = -nI 1 := by
    rw [up_k _ _ _ _ _ (by decide), up_k _ _ _ _ _ (by decide), up_k _ _ _ _ _ (by decide), up_k _ _ _ _ _ (by decide), up_same]; rfl
  have c7 : up (up (up (up (up M 61 2 (-1)) 61 7 0) 61 5 0) 61 9 0) 61 10 3 61 7 = nI 0 := by
    rw [up_k _ _ _ _ _ (by decide), up_k _ _ _ _ _ (by decide), up_k _ _ _ _ _ (by decide), up_same]; rfl
  have c5 : up (up (up (up (up M 61 2 (-1)) 61 7 0) 61 5 0) 61 9 0) 61 10 3 61 5 = nI 0 := by
    rw [up_k _ _ _ _ _ (by decide), up_k _ _ _ _ _ (by decide), up_same]; rfl
  have c9 : up (up (up (up (up M 61 2 (-1)) 61 7 0) 61 5 0) 61 9 0) 61 10 3 61 9 = nI 0 := by
    rw [up_k _ _ _ _ _ (by decide), up_same]; rfl
  have c10 : up (up (up (up (up M 61 2 (-1)) 61 7 0) 61 5 0) 61 9 0) 61 10 3 61 10 = nI 3 := by
    rw [up_same]; rfl
  have m15 : up (up (up (up (up (up (up N 0 15 0) 0 16 3) 0 19 0) 0 20 0) 0 21 0) 0 23 0) 0 22 (nI L) 0 15 = nI 0 := by
    rw [up_k _ _ _ _ _ (by decide), up_k _ _ _ _ _ (by decide), up_k _ _ _ _ _ (by decide), up_k _ _ _ _ _ (by decide), up_k _ _ _ _ _ (by decide), up_k _ _ _ _ _ (by decide), up_same]; rfl
  have m16 : up (up (up (up (up (up (up N 0 15 0) 0 16 3) 0 19 0) 0 20 0) 0 21 0) 0 23 0) 0 22 (nI L) 0 16 = nI 3 := by
    rw [up_k _ _ _ _ _ (by decide), up_k _ _ _ _ _ (by decide), up_k _ _ _ _ _ (by decide), up_k _ _ _ _ _ (by decide), up_k _ _ _ _ _ (by decide), up_same]; rfl
  have m19 : up (up (up (up (up (up (up N 0 15 0) 0 16 3) 0 19 0) 0 20 0) 0 21 0) 0 23 0) 0 22 (nI L) 0 19 = nI 0 := by
    rw [up_k _ _ _ _ _ (by decide), up_k _ _ _ _ _ (by decide), up_k _ _ _ _ _ (by decide), up_k _ _ _ _ _ (by decide), up_same]; rfl
  have m20 : up (up (up (up (up (up (up N 0 15 0) 0 16 3) 0 19 0) 0 20 0) 0 21 0) 0 23 0) 0 22 (nI L) 0 20 = nI 0 := by
    rw [up_k _ _ _ _ _ (by decide), up_k _ _ _ _ _ (by decide), up_k _ _ _ _ _ (by decide), up_same]; rfl
  have m21 : up (up (up (up (up (up (up N 0 15 0) 0 16 3) 0 19 0) 0 20 0) 0 21 0) 0 23 0) 0 22 (nI L) 0 21 = nI 0 := by
    rw [up_k _ _ _ _ _ (by decide), up_k _ _ _ _ _ (by decide), up_same]; rfl
  have m23 : up (up (up (up (up (up (up N 0 15 0) 0 16 3) 0 19 0) 0 20 0) 0 21 0) 0 23 0) 0 22 (nI L) 0 23 = nI 0 := by
    rw [up_k _ _ _ _ _ (by decide), up_same]; rfl
  have m22 : up (up (up (up (up (up (up N 0 15 0) 0 16 3) 0 19 0) 0 20 0) 0 21 0) 0 23 0) 0 22 (nI L) 0 22 = nI L := up_same _ _ _ _
  have eT : f_X7_readText 61 M = (bd (f_X7_forward 61 (up (up (up (up (up M 61 2 (-1)) 61 7 0) 61 5 0) 61 9 0) 61 10 3)) fun _ M => bd (f_X7_readHead 61 M) fun _ M => vv (M 61 2) fun x3 => jn (fun (M : Mem) => vv (M 61 2) fun x5 => if x5 < 0 then (vv (M 61 10) fun x6 => if x6 = 0 then some (0, M) else vv (M 61 8) fun x7 => mm (up M 61 2 x7) fun M => some (0, M)) else some (0, M)) fun k4 => if x3 < 0 then bd (f_X7_readLevel 61 0 0 0 M) fun _ M => k4 M else k4 M) := by
    unfold f_X7_readText
    rw [mm_e, mm_e, mm_e, mm_e, mm_e]
  rw [eT]
  clear eT
  generalize (up (up (up (up (up M 61 2 (-1)) 61 7 0) 61 5 0) 61 9 0) 61 10 3) = Ma at FCs hC1 c2 c7 c5 c9 c10 ⊢
  generalize (up (up (up (up (up (up (up N 0 15 0) 0 16 3) 0 19 0) 0 20 0) 0 21 0) 0 23 0) 0 22 (nI L)) = Na at FMs hM1 m15 m16 m19 m20 m21 m22 m23 ⊢
  obtain ⟨r1, Mb, r1', Nb, a, b, s, e1, e2, f, g, hT, _⟩ := fwd0 hC1 hM1 (Nat.zero_le _) c9 c10 (by omega) m15 m16 (by omega) (by omega)
  have hPre : Pre n L B Mb Nb a b s := by
    refine ⟨hT, ?_, ?_, ?_, ?_, ?_, ?_, ?_, ?_⟩
    · rw [f.2 2 (by decide) (by decide) (by decide)]; exact c2
    · rw [f.2 7 (by decide) (by decide) (by decide)]; exact c7
    · rw [g.2 21 (by decide)]; exact m21
    · rw [g.2 22 (by decide)]; exact m22
    · rw [f.2 5 (by decide) (by decide) (by decide)]; exact c5
    · rw [g.2 23 (by decide)]; exact m23
    · rw [g.2 19 (by decide)]; exact m19
    · rw [g.2 20 (by decide)]; exact m20
  have FCb : FC0 M Mb := FCs.t f.f0
  have FMb : FM L N Nb 0 := FMs.t0 (g.fm L 0)
  obtain ⟨r2, Mc, r2', Nc, e3, e4, hH⟩ := head hPre
  unfold pB
  rw [e1, bd_e, e3, bd_e, vv_e, jn_e, e2, bd_e, e4, bd_e, jn_e]
  rcases hH with ⟨rfl, a', ha', q2, q14, FCc, FMc⟩ | ⟨kc, km, r3', Nd, a1, b1, s1, rfl, hkc, e5, hP1, q3, q4, FCc, FMc⟩
  · have x1 : (if Mc 61 2 < 0 then (bd (f_X7_readLevel 61 0 0 0 Mc) fun _ M => (fun (M : Mem) => vv (M 61 2) fun x5 => if x5 < 0 then (vv (M 61 10) fun x6 => if x6 = 0 then some (0, M) else vv (M 61 8) fun x7 => mm (up M 61 2 x7) fun M => some (0, M)) else some (0, M)) M) else (fun (M : Mem) => vv (M 61 2) fun x5 => if x5 < 0 then (vv (M 61 10) fun x6 => if x6 = 0 then some (0, M) else vv (M 61 8) fun x7 => mm (up M 61 2 x7) fun M => some (0, M)) else some (0, M)) Mc) = some ((0 : Int32), Mc) := by
      rw [q2, if_neg (show ¬ nI a' < 0 from nI_nlt (a := a') (b := 0) (by omega) (by omega))]
      show (vv (Mc 61 2) _) = _
      rw [vv_e, q2, if_neg (show ¬ nI a' < 0 from nI_nlt (a := a') (b := 0) (by omega) (by omega))]
    rw [x1, if_pos (show -nI 1 < 0 by decide)]
    have y1 : (jn (fun (v9 : Int32) (M : Mem) => mm (up M 0 13 0) fun M => if v9 = 0 then some ((-1), M) else some (-nI 1, M)) fun k10 => if (0 : Int32) = 0 then k10 0 Nc else bd (f_X10_goesOn 0 Nc) fun _ M => bd (f_X10_either 0 (-nI 1) M) fun x12 M => if x12 = 0 then k10 0 M else vv (M 0 16) fun x13 => if x13 = 0 then k10 1 M else k10 0 M) = some (-nI 1, up Nc 0 13 0) := by
      rw [jn_e, if_pos rfl]
      show (mm (up Nc 0 13 0) _) = _
      rw [mm_e, if_pos rfl]
      rfl
    refine ⟨_, Mc, _, up Nc 0 13 0, rfl, y1, FCb.t FCc, (FMb.t0 FMc).fp, Or.inl ⟨a', ha', q2, rfl, ?_⟩⟩
    rw [up_k _ _ _ _ _ (by decide)]; exact q14
  · have hkm : km < 14 := by omega
    rw [hP1.2.1, if_pos (show -nI 1 < 0 by decide), if_neg (show ¬ nI km < 0 from nI_nlt (a := km) (b := 0) (by omega) (by omega))]
    obtain ⟨r6, Me, r6', Ne, e6, e7, hO⟩ := readers hLb hkc (hP1.ps q3)
    have y1 : ∀ z, (jn (fun (v9 : Int32) (M : Mem) => mm (up M 0 13 0) fun M => if v9 = 0 then some ((-1), M) else some (nI km, M)) fun k10 => if (1 : Int32) = 0 then k10 1 Nc else bd (f_X10_goesOn 0 Nc) fun _ M => bd (f_X10_either 0 (nI km) M) fun x12 M => if x12 = 0 then k10 0 M else vv (M 0 16) fun x13 => if x13 = 0 then k10 1 M else k10 0 M) = z ↔ (if r6' = 0 then some ((-1), up Ne 0 13 0) else if Ne 0 16 = 0 then some (nI km, up Ne 0 13 0) else some ((-1), up Ne 0 13 0)) = z := by
      intro z
      rw [jn_e, if_neg (show ¬ (1 : Int32) = 0 by decide), e5, bd_e, e7, bd_e]
      by_cases h6 : r6' = 0
      · rw [if_pos h6, if_pos h6]
        show (mm (up Ne 0 13 0) _) = _ ↔ _
        rw [mm_e, if_pos rfl]
      · rw [if_neg h6, if_neg h6, vv_e]
        by_cases h16 : Ne 0 16 = 0
        · rw [if_pos h16, if_pos h16]
          show (mm (up Ne 0 13 0) _) = _ ↔ _
          rw [mm_e, if_neg (by decide)]
        · rw [if_neg h16, if_neg h16]
          show (mm (up Ne 0 13 0) _) = _ ↔ _
          rw [mm_e, if_pos rfl]
    have x1 : (bd (f_X7_readLevel 61 0 0 0 Mc) fun _ M => (fun (M : Mem) => vv (M 61 2) fun x5 => if x5 < 0 then (vv (M 61 10) fun x6 => if x6 = 0 then some (0, M) else vv (M 61 8) fun x7 => mm (up M 61 2 x7) fun M => some (0, M)) else some (0, M)) M) = (if Me 61 2 < 0 then (if Me 61 10 = 0 then some ((0 : Int32), Me) else some (0, up Me 61 2 (Me 61 8))) else some (0, Me)) := by
      rw [e6, bd_e]
      show (vv (Me 61 2) _) = _
      rw [vv_e, vv_e, vv_e, mm_e]
    rw [x1]
    rcases hO with ⟨rfl, a2, b2', s2, d2, lv2, hP2, hFC2, hFM2, hdd2, hda2, hSg2⟩ | ⟨rfl, a', m, g1, g2, g3, g4, g5, g6, g7⟩
    · have hn2 := hP2.1.n
      have FCe : FC0 M Me := (FCb.t FCc).t (fun q h1 h2 => hFC2.1 q h1 h2)
      have FMe : FM L N Ne 0 := (FMb.t0 FMc).t0 hFM2
      rw [hP2.2.1, if_pos (show -nI 1 < 0 by decide), hP2.1.2.2.2.2.1, hP2.1.2.2.1]
      by_cases h0 : s2 = 0
      · have t0 : Ne 0 16 = nI 0 := by
          obtain ⟨_, _, _, _, _, _, _, _, _, hc⟩ := hP2.1
          rcases hc with ⟨c, _, g⟩ | ⟨c, _⟩ | ⟨c, _⟩ | ⟨c, _⟩ | ⟨c, _⟩ | ⟨c, _⟩
          · exact g
          all_goals omega
        rw [if_pos (show nI s2 = 0 by rw [h0]; rfl)]
        refine ⟨_, Me, nI km, up Ne 0 13 0, rfl, (y1 _).mpr ?_, FCe, FMe.fp, Or.inr ⟨hP2.2.1, kc, km, lv2, d2, hkc, rfl, hP2.2.2.1, ?_, hP2.2.2.2.2.2.2.2.1, ?_, hP2.2.2.2.1, ?_, ?_, ?_⟩⟩
        · rw [if_neg (show ¬ nI 1 = 0 by decide), if_pos (show Ne 0 16 = 0 from t0)]
        · rw [hFC2.2.2.2.1]; exact q4
        · rw [up_k _ _ _ _ _ (by decide)]; exact hP2.2.2.2.2.2.2.2.2.1
        · rw [up_k _ _ _ _ _ (by decide)]; exact hP2.2.2.2.2.1
        · have := hP2.2.2.2.2.2.2.1
          omega
        · intro e
          obtain ⟨dp, w1, w2, w3⟩ := hSg2 e
          refine ⟨dp, w1, w2, fun k hi hk => ?_⟩
          rw [up_ne (by decide)]
          exact w3 k hi hk
      · have t0 : ∃ t, Ne 0 16 = nI t ∧ 0 < t ∧ t < 5 := by
          obtain ⟨_, _, _, _, _, _, _, _, _, hc⟩ := hP2.1
          rcases hc with ⟨c, _, g⟩ | ⟨c, _, _, g, _⟩ | ⟨c, _, _, g, _⟩ | ⟨c, _, _, _, g, _⟩ | ⟨c, _, g⟩ | ⟨c, _, g⟩
          · omega
          · exact ⟨3, g, by omega, by omega⟩
          · exact ⟨1, g, by omega, by omega⟩
          · exact ⟨2, g, by omega, by omega⟩
          · exact ⟨4, g, by omega, by omega⟩
          · exact ⟨4, g, by omega, by omega⟩
        obtain ⟨t, t0, t1, t5⟩ := t0
        rw [if_neg (show ¬ nI s2 = 0 from fun q => absurd ((nI_eq (a := s2) (b := 0) (by omega) (by decide)).mp q) h0)]
        refine ⟨_, up Me 61 2 (nI a2), -nI 1, up Ne 0 13 0, rfl, (y1 _).mpr ?_, FCe.u, FMe.fp, Or.inl ⟨a2, by omega, up_same _ _ _ _, rfl, ?_⟩⟩
        · rw [if_neg (show ¬ nI 1 = 0 by decide), t0, if_neg (show ¬ nI t = 0 from fun q => absurd ((nI_eq (a := t) (b := 0) (by omega) (by decide)).mp q) (by omega))]
          rfl
        · rw [up_k _ _ _ _ _ (by decide)]; exact hP2.1.2.2.2.2.2.1
    · rw [g3, if_neg (show ¬ nI a' < 0 from nI_nlt (a := a') (b := 0) (by omega) (by omega))]
      refine ⟨_, Me, -nI 1, up Ne 0 13 0, rfl, (y1 _).mpr ?_, (FCb.t FCc).t (fun q h1 h2 => g6.1 q h1 h2), ((FMb.t0 FMc).t0 g7).fp, Or.inl ⟨a', g1, g3, rfl, ?_⟩⟩
      · rw [if_pos (show nI 0 = 0 from rfl)]
        rfl
      · rw [up_k _ _ _ _ _ (by decide)]; exact g4
