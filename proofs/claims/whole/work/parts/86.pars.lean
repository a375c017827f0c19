theorem TK.tok {n : Nat} {B : Nat → Nat} {M N : Mem} {a b s : Nat} (h : TK n B M N a b s) (h3 : s = 3) : N 0 16 = nI 3 := by
  obtain ⟨hC, hM, h8, h9, h10, h14, h15, hab, hbn, hc⟩ := h
  rcases hc with ⟨c, c1, _⟩ | ⟨c, c1, c4, c2, g⟩ | ⟨c, c1, _, c2, _⟩ | ⟨c, c1, _, _, c2, _⟩ | ⟨c, c1, _⟩ | ⟨c, c1, _⟩
  · omega
  · exact c2
  · omega
  · omega
  · omega
  · omega
theorem PSt.ch {n L kc : Nat} {B : Nat → Nat} {M N : Mem} {a b s d lv op no : Nat} (hP : PSt n L kc B M N a b s d lv op no) (no' : Nat) : PSt n L kc B M (up N 0 20 (nI no')) a b s d lv op no' := by
  obtain ⟨hT, c2, c3, c7, m21, m22, hd, c5, m23, m19, m20⟩ := hP
  have mf : ∀ f, f ≠ 20 → up N 0 20 (nI no') 0 f = N 0 f := fun f h => up_k _ _ _ _ _ h
  exact ⟨hT.cg rfl rfl rfl rfl rfl (fun f _ _ => mf f (by omega)) (up_ne (by decide)), c2, c3, c7, (mf 21 (by decide)).trans m21, (mf 22 (by decide)).trans m22, hd, c5, (mf 23 (by decide)).trans m23, (mf 19 (by decide)).trans m19, up_same _ _ _ _⟩
theorem PSt.ch' {n L kc : Nat} {B : Nat → Nat} {M N : Mem} {a b s d lv op no : Nat} (hP : PSt n L kc B M N a b s d lv op no) (op' : Nat) : PSt n L kc B M (up N 0 19 (nI op')) a b s d lv op' no := by
  obtain ⟨hT, c2, c3, c7, m21, m22, hd, c5, m23, m19, m20⟩ := hP
  have mf : ∀ f, f ≠ 19 → up N 0 19 (nI op') 0 f = N 0 f := fun f h => up_k _ _ _ _ _ h
  exact ⟨hT.cg rfl rfl rfl rfl rfl (fun f _ _ => mf f (by omega)) (up_ne (by decide)), c2, c3, c7, (mf 21 (by decide)).trans m21, (mf 22 (by decide)).trans m22, hd, c5, (mf 23 (by decide)).trans m23, up_same _ _ _ _, (mf 20 (by decide)).trans m20⟩
theorem fm_0 {L : Nat} {N : Mem} {k d : Nat} {v : Int32} (hk : 14 ≤ k ∧ k ≤ 23) : FM L N (up N 0 k v) d := ⟨fun q h1 _ => up_ne h1, fun f hf => up_k _ _ _ _ _ (by omega), fun j _ => by rw [up_ne (by decide)]⟩
theorem pc_not {n L kc km : Nat} {B : Nat → Nat} {M N : Mem} {a b s d lv op no : Nat} (hL : L + 192 ≤ 3510) (hP : PSt n L kc B M N a b s d lv op no) (h3 : s = 3) (hu : B a = 33) (h8 : no < 8)
    (grl : Nat → Int32 → Int32 → Int32 → Mem → Option (Int32 × Mem)) (grp : Nat → Int32 → Int32 → Mem → Option (Int32 × Mem)) (q1 q2 q3 q4 q5 q6 : Nat → Int32 → Mem → Option (Int32 × Mem))
    (H : ∀ M N a b s d lv, PSt n L kc B M N a b s d lv op (no + 1) → Out n L kc B op (no + 1) M N a d (grp 61 (nI op) (nI (no + 1)) M) (q6 0 (nI km) N)) : Out n L kc B op no M N a d (F_X7_readPiece grl grp 61 (nI op) (nI no) M) (F_X10_part0 q1 q2 q3 q4 q5 q6 0 (nI km) N) := by
  have hT := hP.1
  have hd : d ≤ a := hP.2.2.2.2.2.2.1
  have m20 := hP.2.2.2.2.2.2.2.2.2.2
  have hcs := c_sign hT
  rw [if_pos h3, hu, show cbv 33 = nI 33 from rfl] at hcs
  obtain ⟨r, M1, r', N1, a1, b1, s1, e1, e2, f, g, hP1, ha1⟩ := (hP.ch (no + 1)).fwd (Or.inr (Or.inr h3))
  obtain ⟨r2, M2, r2', N2, e3, e4, hO⟩ := H M1 N1 a1 b1 s1 d lv hP1
  have cl : F_X7_readPiece grl grp 61 (nI op) (nI no) M = bd (f_X7_put 61 (-nI 33) M2) fun _ M => some (0, M) := by
    unfold F_X7_readPiece
    rw [hcs, bd_e, jn_e, if_pos (show nI 33 = 33 from rfl), if_pos (show nI no < 8 from nI_lt (a := no) (b := 8) (by omega) (by decide)), e1, bd_e, show nI no + 1 = nI (no + 1) from nI_add no 1, e3, bd_e]
  have ml : F_X10_part0 q1 q2 q3 q4 q5 q6 0 (nI km) N = if r2' = 0 then some (0, N2) else vv (N2 0 20) fun x18 => mm (up N2 0 20 (x18 - 1)) fun M => bd (f_X10_step 0 2 33 M) fun _ M => some (1, M) := by
    unfold F_X10_part0
    rw [vv_e, hT.tok h3, if_neg (show ¬ nI 3 = 2 by decide), vv_e, jn_e, if_neg (show ¬ nI 3 = 1 by decide)]
    show (bd (f_X10_isSign 0 33 N) _) = _
    rw [show f_X10_isSign 0 33 N = _ from m_sign hT 33 (by omega), bd_e, jn_e, if_b2, if_pos ⟨h3, hu⟩, vv_e, m20, if_pos (show nI no < 8 from nI_lt (a := no) (b := 8) (by omega) (by decide)), vv_e, mm_e, show nI no + 1 = nI (no + 1) from nI_add no 1, e2, bd_e, e4, bd_e]
  rw [cl, ml]
  rcases hO with ⟨rfl, a2, b2, s2, d2, lv2, hP2, hFC2, hFM2, hdd2, hda2, hSg2⟩ | ⟨rfl, hB⟩
  · have hn := hP2.1.n
    have hP2' := hP2.ch no
    have p1 := c_put (-nI 33) hP2.2.2.2.1 (show d2 < 96 by omega)
    have p2 := m_step 2 33 hP2'.2.2.2.2.1 hP2'.2.2.2.2.2.1 hL (show d2 < 96 by omega)
    rw [p1, bd_e, if_neg (show ¬ nI 1 = 0 by decide), vv_e, mm_e, hP2.2.2.2.2.2.2.2.2.2.2, show nI (no + 1) - 1 = nI no from nI_pred no, p2, bd_e]
    refine Out.g (a' := a2) (b' := b2) (s' := s2) (d' := d2 + 1) (lv' := lv2) ⟨hP2'.put (-nI 33) 2 33 (by omega), ?_, ?_, by omega, by omega, ?_⟩
    · exact ((f.fc d).t hFC2 (Nat.le_refl _)).t (put_fc _) (by omega)
    · exact ((((fm_0 (by omega)).t (g.fm L d) (Nat.le_refl _)).t hFM2 (Nat.le_refl _)).t (fm_0 (d := d) (by omega)) (Nat.le_refl _)).t (put_fm _ _ (by omega)) (by omega)
    · refine Sg.not hdd2 ?_ ?_
      · exact (hSg2.fr FC.r (fm_0 (d := d2) (by omega)) (Nat.le_refl _)).fr (put_fc _) (put_fm _ _ (by omega)) (Nat.le_refl _)
      · intro e he
        rw [put_c, put_w, put_v]
        exact Or.inr (Or.inr (Or.inl ⟨rfl, rfl, rfl, he, rfl⟩))
  · obtain ⟨a', m, h1, h2, h3, h4, h5, h6, h7⟩ := hB.fr (f.fc d) ((fm_0 (N := N) (v := nI (no + 1)) (by omega)).t (g.fm L d) (Nat.le_refl _))
    obtain ⟨r3, M3, e5, m', hm', q1, q2, q3⟩ := c_put' (-nI 33) h5 h2
    rw [e5, bd_e, if_pos (show nI 0 = 0 from rfl)]
    refine Out.b ⟨a', m', h1, hm', (q3 2 (by decide)).trans h3, h4, q1, ?_, h7⟩
    exact h6.t ⟨q2, q3 1 (by decide), q3 3 (by decide), q3 4 (by decide), fun k hk => absurd hk (by omega)⟩ (Nat.le_refl _)
theorem pc_par {n L kc km : Nat} {B : Nat → Nat} {M N : Mem} {a b s d lv op no : Nat} (hP : PSt n L kc B M N a b s d lv op no) (h3 : s = 3) (hu : B a = 40) (h8 : op < 8)
    (grl : Nat → Int32 → Int32 → Int32 → Mem → Option (Int32 × Mem)) (grp : Nat → Int32 → Int32 → Mem → Option (Int32 × Mem)) (q1 q2 q3 q4 q5 q6 : Nat → Int32 → Mem → Option (Int32 × Mem))
    (H : ∀ M N a b s d lv, PSt n L kc B M N a b s d lv (op + 1) no → Out n L kc B (op + 1) no M N a d (grl 61 (nI 0) (nI (op + 1)) (nI no) M) (q1 0 (nI km) N)) : Out n L kc B op no M N a d (F_X7_readPiece grl grp 61 (nI op) (nI no) M) (F_X10_part0 q1 q2 q3 q4 q5 q6 0 (nI km) N) := by
  have hT := hP.1
  have hd : d ≤ a := hP.2.2.2.2.2.2.1
  have m19 := hP.2.2.2.2.2.2.2.2.2.1
  have hcs := c_sign hT
  rw [if_pos h3, hu, show cbv 40 = nI 40 from rfl] at hcs
  obtain ⟨r, M1, r', N1, a1, b1, s1, e1, e2, f, g, hP1, ha1⟩ := (hP.ch' (op + 1)).fwd (Or.inr (Or.inr h3))
  obtain ⟨r2, M2, r2', N2, e3, e4, hO⟩ := H M1 N1 a1 b1 s1 d lv hP1
  have cl : F_X7_readPiece grl grp 61 (nI op) (nI no) M = (if M2 61 2 < 0 then (bd (f_X7_readClosing 61 M2) fun _ M => some (0, M)) else some (0, M2)) := by
    unfold F_X7_readPiece
    rw [hcs, bd_e, jn_e, if_neg (show ¬ nI 40 = 33 by decide)]
    show (jn _ _) = _
    rw [jn_e, if_pos (show nI 40 = 40 from rfl), if_pos (show nI op < 8 from nI_lt (a := op) (b := 8) (by omega) (by decide)), e1, bd_e, show nI op + 1 = nI (op + 1) from nI_add op 1]
    show (bd (grl 61 (nI 0) (nI (op + 1)) (nI no) M1) _) = _
    rw [e3, bd_e, vv_e]
  have ml : F_X10_part0 q1 q2 q3 q4 q5 q6 0 (nI km) N = if r2' = 0 then some (0, N2) else bd (f_X10_isSign 0 41 N2) fun x11 M => if x11 = 0 then some (0, M) else vv (M 0 19) fun x12 => mm (up M 0 19 (x12 - 1)) fun M => bd (f_X10_goesOn 0 M) fun _ M => some (1, M) := by
    unfold F_X10_part0
    rw [vv_e, hT.tok h3, if_neg (show ¬ nI 3 = 2 by decide), vv_e, jn_e, if_neg (show ¬ nI 3 = 1 by decide)]
    show (bd (f_X10_isSign 0 33 N) _) = _
    rw [show f_X10_isSign 0 33 N = _ from m_sign hT 33 (by omega), bd_e, jn_e, if_b2, if_neg (by omega)]
    show (bd (f_X10_isSign 0 40 N) _) = _
    rw [show f_X10_isSign 0 40 N = _ from m_sign hT 40 (by omega), bd_e, if_b2, if_pos ⟨h3, hu⟩, vv_e, m19, if_neg (show ¬ nI op = 8 from fun q => absurd ((nI_eq (a := op) (b := 8) (by omega) (by decide)).mp q) (by omega)), vv_e, mm_e, show nI op + 1 = nI (op + 1) from nI_add op 1, e2, bd_e, e4, bd_e]
  rw [cl, ml]
  have FMa : FM L N N1 d := (fm_0 (N := N) (v := nI (op + 1)) (by omega)).t (g.fm L d) (Nat.le_refl _)
  rcases hO with ⟨rfl, a2, b2, s2, d2, lv2, hP2, hFC2, hFM2, hdd2, hda2, hSg2⟩ | ⟨rfl, hB⟩
  · have hn := hP2.1.n
    have hcs2 := c_sign hP2.1
    have hsx := sgx hP2.1 (c := 41) (by omega) (by omega)
    rw [hP2.2.1, if_pos (show -nI 1 < 0 by decide), if_neg (show ¬ nI 1 = 0 by decide), show f_X10_isSign 0 41 N2 = _ from m_sign hP2.1 41 (by omega), bd_e, if_b2]
    unfold f_X7_readClosing
    rw [hcs2, bd_e]
    by_cases hx : s2 = 3 ∧ B a2 = 41
    · obtain ⟨r4, M4, r4', N4, a4, b4, s4, e6, e7, f4, g4, hP4, ha4⟩ := (hP2.ch' op).fwd (Or.inr (Or.inr hx.1))
      rw [if_pos (show (if s2 = 3 then cbv (B a2) else nI 0) = 41 from hsx.mpr hx), e6, bd_e, bd_e, if_pos hx, vv_e, mm_e, hP2.2.2.2.2.2.2.2.2.2.1, show nI (op + 1) - 1 = nI op from nI_pred op, e7, bd_e]
      refine Out.g (a' := a4) (b' := b4) (s' := s4) (d' := d2) (lv' := lv2) ⟨hP4, ?_, ?_, hdd2, by omega, ?_⟩
      · exact ((f.fc d).t hFC2 (Nat.le_refl _)).t (f4.fc d) (Nat.le_refl _)
      · exact ((FMa.t hFM2 (Nat.le_refl _)).t (fm_0 (d := d) (by omega)) (Nat.le_refl _)).t (g4.fm L d) (Nat.le_refl _)
      · exact (hSg2.fr FC.r (fm_0 (d := d2) (by omega)) (Nat.le_refl _)).fr (f4.fc d2) (g4.fm L d2) (Nat.le_refl _)
    · rw [if_neg (show ¬ (if s2 = 3 then cbv (B a2) else nI 0) = 41 from fun q => hx (hsx.mp q)), vv_e, mm_e, hP2.1.2.2.1, bd_e, if_neg hx]
      exact Out.b ((hP2.bad.fr hFC2 hFM2).fr (f.fc d) FMa)
  · obtain ⟨a', m, h1, h2, h3, h4, h5, h6, h7⟩ := id hB
    rw [h3, if_neg (show ¬ nI a' < 0 from nI_nlt (a := a') (b := 0) (by omega) (by omega)), if_pos (show nI 0 = 0 from rfl)]
    exact Out.b (hB.fr (f.fc d) FMa)
theorem piece {n L kc km : Nat} {B : Nat → Nat} {op no : Nat} (hL : L + 192 ≤ 3510) (ho : op ≤ 8) (hno : no ≤ 8) (hkc : (kc = 0 ∧ km < 12) ∨ (kc = 1 ∧ km = 12) ∨ (kc = 2 ∧ km = 13))
    (grl : Nat → Int32 → Int32 → Int32 → Mem → Option (Int32 × Mem)) (grp : Nat → Int32 → Int32 → Mem → Option (Int32 × Mem)) (q1 q2 q3 q4 q5 q6 : Nat → Int32 → Mem → Option (Int32 × Mem))
    (Hn : no < 8 → ∀ M N a b s d lv, PSt n L kc B M N a b s d lv op (no + 1) → Out n L kc B op (no + 1) M N a d (grp 61 (nI op) (nI (no + 1)) M) (q6 0 (nI km) N))
    (Hp : op < 8 → ∀ M N a b s d lv, PSt n L kc B M N a b s d lv (op + 1) no → Out n L kc B (op + 1) no M N a d (grl 61 (nI 0) (nI (op + 1)) (nI no) M) (q1 0 (nI km) N))
    (M N : Mem) (a b s d lv : Nat) (hP : PSt n L kc B M N a b s d lv op no) : Out n L kc B op no M N a d (F_X7_readPiece grl grp 61 (nI op) (nI no) M) (F_X10_part0 q1 q2 q3 q4 q5 q6 0 (nI km) N) := by
  by_cases h2 : s = 2 ∧ b ≤ a + 4
  · exact pc_num hL hP ho hno (by omega) h2.1 h2.2 grl grp q1 q2 q3 q4 q5 q6
  by_cases h1 : s = 1 ∧ b = a + 1 ∧ nix kc (B a) ≠ 0
  · exact pc_name hL hP ho hno hkc h1.1 h1.2.1 h1.2.2 grl grp q1 q2 q3 q4 q5 q6
  by_cases hx : s = 3 ∧ B a = 33 ∧ no < 8
  · exact pc_not hL hP hx.1 hx.2.1 hx.2.2 grl grp q1 q2 q3 q4 q5 q6 (Hn hx.2.2)
  by_cases hy : s = 3 ∧ B a = 40 ∧ op < 8
  · exact pc_par hP hy.1 hy.2.1 hy.2.2 grl grp q1 q2 q3 q4 q5 q6 (Hp hy.2.2)
  exact pc_bad hP ho hno hkc h2 h1 hx hy grl grp q1 q2 q3 q4 q5 q6
