/-! the words ahead, then the whole -/
def FC0 (M M' : Mem) : Prop := ∀ q, q ≠ 61 → q ≠ 63 → M' q = M q
theorem FC0.t {M M' M'' : Mem} (h : FC0 M M') (g : FC0 M' M'') : FC0 M M'' := fun q h1 h2 => (g q h1 h2).trans (h q h1 h2)
theorem FC0.u {M M' : Mem} {k : Nat} {v : Int32} (h : FC0 M M') : FC0 M (up M' 61 k v) := fun q h1 h2 => (up_ne h1).trans (h q h1 h2)
theorem FT.f0 {M M' : Mem} (h : FT M M') : FC0 M M' := fun q h1 _ => h.1 q h1
theorem FM.t0 {L : Nat} {N N' N'' : Mem} (h : FM L N N' 0) (g : FM L N' N'' 0) : FM L N N'' 0 := h.t g (Nat.le_refl _)
def Pre (n L : Nat) (B : Nat → Nat) (M N : Mem) (a b s : Nat) : Prop := TK n B M N a b s ∧ M 61 2 = -nI 1 ∧ M 61 7 = nI 0 ∧ N 0 21 = nI 0 ∧ N 0 22 = nI L ∧ M 61 5 = nI 0 ∧ N 0 23 = nI 0 ∧ N 0 19 = nI 0 ∧ N 0 20 = nI 0
theorem Pre.fwd {n L : Nat} {B : Nat → Nat} {M N : Mem} {a b s : Nat} (h : Pre n L B M N a b s) (ok : s = 1 ∨ (s = 2 ∧ b ≤ a + 4) ∨ s = 3) : ∃ r M' r' N' a' b' s', f_X7_forward 61 M = some (r, M') ∧ f_X10_goesOn 0 N = some (r', N') ∧ FT M M' ∧ GT N N' ∧ Pre n L B M' N' a' b' s' := by
  obtain ⟨hT, h2, h7, m21, m22, h5, m23, m19, m20⟩ := h
  obtain ⟨r, M', r', N', a', b', s', e1, e2, f, g, hT', ha⟩ := tk_fwd hT ok
  refine ⟨r, M', r', N', a', b', s', e1, e2, f, g, ⟨hT', ?_, ?_, ?_, ?_, ?_, ?_, ?_, ?_⟩⟩
  · rw [f.2 2 (by decide) (by decide) (by decide)]; exact h2
  · rw [f.2 7 (by decide) (by decide) (by decide)]; exact h7
  · rw [g.2 21 (by decide)]; exact m21
  · rw [g.2 22 (by decide)]; exact m22
  · rw [f.2 5 (by decide) (by decide) (by decide)]; exact h5
  · rw [g.2 23 (by decide)]; exact m23
  · rw [g.2 19 (by decide)]; exact m19
  · rw [g.2 20 (by decide)]; exact m20
theorem Pre.set {n L : Nat} {B : Nat → Nat} {M N : Mem} {a b s k : Nat} {v : Int32} (h : Pre n L B M N a b s) (hk : k = 3 ∨ k = 4) : Pre n L B (up M 61 k v) N a b s := by
  obtain ⟨hT, h2, h7, m21, m22, h5, m23, m19, m20⟩ := h
  have cf : ∀ f, f ≠ 3 → f ≠ 4 → up M 61 k v 61 f = M 61 f := fun f h1 h2 => up_k _ _ _ _ _ (by omega)
  exact ⟨hT.cg (cf 1 (by decide) (by decide)) (cf 8 (by decide) (by decide)) (cf 9 (by decide) (by decide)) (cf 10 (by decide) (by decide)) (up_ne (by decide)) (fun _ _ _ => rfl) rfl, (cf 2 (by decide) (by decide)).trans h2, (cf 7 (by decide) (by decide)).trans h7, m21, m22, (cf 5 (by decide) (by decide)).trans h5, m23, m19, m20⟩
theorem Pre.ps {n L kc : Nat} {B : Nat → Nat} {M N : Mem} {a b s : Nat} (h : Pre n L B M N a b s) (h3 : M 61 3 = nI kc) : PSt n L kc B M N a b s 0 0 0 0 := by
  obtain ⟨hT, h2, h7, m21, m22, h5, m23, m19, m20⟩ := h
  exact ⟨hT, h2, h3, h7, m21, m22, Nat.zero_le _, h5, m23, m19, m20⟩
def HBad (L : Nat) (M N M' N' : Mem) : Prop := ∃ a', a' ≤ 96 ∧ M' 61 2 = nI a' ∧ N' 0 14 = nI a' ∧ FC0 M M' ∧ FM L N N' 0
theorem HBad.of {n L : Nat} {B : Nat → Nat} {M N M' N' : Mem} {a b s : Nat} (h : Pre n L B M' N' a b s) (c : FC0 M M') (m : FM L N N' 0) : HBad L M N (up M' 61 2 (nI a)) N' := by
  have hn := h.1.n
  exact ⟨a, by omega, up_same _ _ _ _, h.1.2.2.2.2.2.1, c.u, m⟩
theorem head {n L : Nat} {B : Nat → Nat} {M N : Mem} {a b s : Nat} (h : Pre n L B M N a b s) :
    ∃ r M' r' N1, f_X7_readHead 61 M = some (r, M') ∧ f_X10_key 0 N = some (r', N1) ∧
      ((r' = -nI 1 ∧ HBad L M N M' N1) ∨
       (∃ kc km r'' N' a' b' s', r' = nI km ∧ ((kc = 0 ∧ km < 12) ∨ (kc = 1 ∧ km = 12) ∨ (kc = 2 ∧ km = 13)) ∧ f_X10_goesOn 0 N1 = some (r'', N') ∧ Pre n L B M' N' a' b' s' ∧ M' 61 3 = nI kc ∧ ((kc = 0 ∧ M' 61 4 = nI km) ∨ (kc ≠ 0 ∧ M' 61 4 = -1000000005)) ∧ FC0 M M' ∧ FM L N N' 0)) := by
  have hT := h.1
  have hn := hT.n
  have w6 := m_w6 hT
  have w3 := m_w3 hT
  have w7 := m_w7 hT
  have hP2 : ∀ v w, Pre n L B (up (up M 61 3 v) 61 4 w) N a b s := fun v w => (h.set (Or.inl rfl)).set (Or.inr rfl)
  have hF0 : ∀ v w, FC0 M (up (up M 61 3 v) 61 4 w) := fun v w => FC0.u (FC0.u (fun _ _ _ => rfl))
  have h3' : ∀ v w, up (up M 61 3 v) 61 4 w 61 3 = v := fun v w => by rw [up_k _ _ _ _ _ (by decide), up_same]
  have h4' : ∀ v w, up (up M 61 3 v) 61 4 w 61 4 = w := fun v w => up_same _ _ _ _
  rcases c_key hT with ⟨h1, hW, ek⟩ | ⟨h1, hW, ek⟩ | ⟨h1, hW, ek⟩ | ⟨n7, n6, n3, ek⟩
  · rw [show b2 (s = 1 ∧ (b = a + 6 ∧ B (a) = 115 ∧ B (a + 1) = 112 ∧ B (a + 2) = 114 ∧ B (a + 3) = 101 ∧ B (a + 4) = 97 ∧ B (a + 5) = 100)) = nI 0 from if_neg (by omega)] at w6
    rw [show b2 (s = 1 ∧ (b = a + 3 ∧ B (a) = 111 ∧ B (a + 1) = 100 ∧ B (a + 2) = 100)) = nI 0 from if_neg (by omega)] at w3
    rw [show b2 (s = 1 ∧ (b = a + 7 ∧ B (a) = 119 ∧ B (a + 1) = 111 ∧ B (a + 2) = 114 ∧ B (a + 3) = 107 ∧ B (a + 4) = 105 ∧ B (a + 5) = 110 ∧ B (a + 6) = 103)) = nI 1 from if_pos ⟨h1, hW⟩] at w7
    obtain ⟨r, M2, r', N2, a2, b2', s2, e1, e2, f, g, hP⟩ := (hP2 (nI 0) (-1000000005)).fwd (Or.inl h1)
    have x3 : M2 61 3 = nI 0 := (f.2 3 (by decide) (by decide) (by decide)).trans (h3' _ _)
    have FCa : FC0 M M2 := (hF0 _ _).t f.f0
    have FMa : FM L N N2 0 := g.fm L 0
    have hn2 := hP.1.n
    have ck : f_X7_readHead 61 M = (bd (f_X7_isNumberHere 61 M2) fun x5 M => jn (fun (M : Mem) => vv (M 61 8) fun x7 => mm (up M 61 2 x7) fun M => some (0, M)) fun k6 => if x5 = 0 then k6 M else bd (f_X7_numberHere 61 M) fun x8 M => if x8 < 12 then (bd (f_X7_numberHere 61 M) fun x9 M => mm (up M 61 4 x9) fun M => bd (f_X7_forward 61 M) fun _ M => some (0, M)) else k6 M) := by
      unfold f_X7_readHead
      rw [ek, bd_e, mm_e, mm_e, vv_e, h3', if_neg (show ¬ nI 0 < 0 by decide), e1, bd_e, vv_e, x3, if_pos (show nI 0 = 0 from rfl)]
    have mk : f_X10_key 0 N = (vv (N2 0 16) fun x5 => if x5 = 2 then (vv (N2 0 17) fun x6 => if x6 < 12 then (vv (N2 0 17) fun x7 => some (x7, N2)) else some ((-1), N2)) else some ((-1), N2)) := by
      unfold f_X10_key
      rw [w6, bd_e, if_pos (show nI 0 = 0 from rfl), w3, bd_e, if_pos (show nI 0 = 0 from rfl), w7, bd_e, if_neg (show ¬ nI 1 = 0 by decide), e2, bd_e]
    rw [c_isNum hP.1, bd_e, jn_e, if_b2] at ck
    rw [vv_e] at mk
    by_cases hx : s2 = 2 ∧ b2' ≤ a2 + 4
    · have hnum := c_num hP.1 hx.1 hx.2
      have hv : vl B a2 (b2' - a2) < 10000 ∧ N2 0 16 = nI 2 ∧ N2 0 17 = nI (vl B a2 (b2' - a2)) := by
        obtain ⟨_, _, _, _, _, _, _, _, _, hc⟩ := hP.1
        rcases hc with ⟨c, _⟩ | ⟨c, _⟩ | ⟨c, _⟩ | ⟨c, _, _, g1, g2, g3⟩ | ⟨c, c', _⟩ | ⟨c, _⟩
        · omega
        · omega
        · omega
        · have h1 := vl_lt (B := B) (a := a2) (b2' - a2) (fun i hi => (g1 (a2 + i) (by omega) (by omega)).2)
          have h2 : 10 ^ (b2' - a2) ≤ 10 ^ 4 := Nat.pow_le_pow_right (by omega) (by omega)
          exact ⟨by omega, g2, g3⟩
        · omega
        · omega
      obtain ⟨hv, m16, m17⟩ := hv
      generalize vl B a2 (b2' - a2) = v at hv hnum m17
      rw [if_pos hx, hnum, bd_e] at ck
      rw [m16, if_pos (show nI 2 = 2 from rfl), vv_e, m17] at mk
      by_cases hv12 : v < 12
      · obtain ⟨r4, M4, r4', N4, a4, b4, s4, e3, e4, f4, g4, hP4⟩ := (hP.set (v := nI v) (Or.inr rfl)).fwd (Or.inr (Or.inl hx))
        rw [if_pos (show nI v < 12 from nI_lt (a := v) (b := 12) (by omega) (by decide)), hnum, bd_e, mm_e, e3, bd_e] at ck
        rw [if_pos (show nI v < 12 from nI_lt (a := v) (b := 12) (by omega) (by decide)), vv_e] at mk
        refine ⟨_, M4, _, N2, ck, mk, Or.inr ⟨0, v, r4', N4, a4, b4, s4, rfl, Or.inl ⟨rfl, hv12⟩, e4, hP4, ?_, Or.inl ⟨rfl, ?_⟩, (FCa.u).t f4.f0, FMa.t0 (g4.fm L 0)⟩⟩
        · rw [f4.2 3 (by decide) (by decide) (by decide), up_k _ _ _ _ _ (by decide)]; exact x3
        · rw [f4.2 4 (by decide) (by decide) (by decide), up_same]
      · rw [if_neg (show ¬ nI v < 12 from nI_nlt (a := v) (b := 12) (by omega) (by omega))] at ck mk
        have ck' : f_X7_readHead 61 M = some (0, up M2 61 2 (nI a2)) := by
          rw [ck]
          show (vv (M2 61 8) _) = _
          rw [vv_e, mm_e, hP.1.2.2.1]
        exact ⟨_, _, _, N2, ck', mk, Or.inl ⟨rfl, HBad.of hP FCa FMa⟩⟩
    · rw [if_neg hx] at ck
      have ck' : f_X7_readHead 61 M = some (0, up M2 61 2 (nI a2)) := by
        rw [ck]
        show (vv (M2 61 8) _) = _
        rw [vv_e, mm_e, hP.1.2.2.1]
      have ht : ∃ t, N2 0 16 = nI t ∧ t < 5 ∧ t ≠ 2 := by
        obtain ⟨_, _, _, _, _, _, _, _, _, hc⟩ := hP.1
        rcases hc with ⟨c, _, g⟩ | ⟨c, _, _, g, _⟩ | ⟨c, _, _, g, _⟩ | ⟨c, _, c', g1, g2, g3⟩ | ⟨c, c', g⟩ | ⟨c, _, g⟩
        · exact ⟨0, g, by omega, by omega⟩
        · exact ⟨3, g, by omega, by omega⟩
        · exact ⟨1, g, by omega, by omega⟩
        · exact absurd ⟨c, c'⟩ hx
        · exact ⟨4, g, by omega, by omega⟩
        · exact ⟨4, g, by omega, by omega⟩
      obtain ⟨t, m16, t5, t2⟩ := ht
      rw [m16, if_neg (show ¬ nI t = 2 from fun q => absurd ((nI_eq (a := t) (b := 2) (by omega) (by decide)).mp q) t2)] at mk
      exact ⟨_, _, _, N2, ck', mk, Or.inl ⟨rfl, HBad.of hP FCa FMa⟩⟩
  · rw [show b2 (s = 1 ∧ (b = a + 6 ∧ B (a) = 115 ∧ B (a + 1) = 112 ∧ B (a + 2) = 114 ∧ B (a + 3) = 101 ∧ B (a + 4) = 97 ∧ B (a + 5) = 100)) = nI 1 from if_pos ⟨h1, hW⟩] at w6
    obtain ⟨r, M2, r', N2, a2, b2', s2, e1, e2, f, g, hP⟩ := (hP2 (nI 1) (-1000000005)).fwd (Or.inl h1)
    have x3 : M2 61 3 = nI 1 := (f.2 3 (by decide) (by decide) (by decide)).trans (h3' _ _)
    have ck : f_X7_readHead 61 M = some (0, M2) := by
      unfold f_X7_readHead
      rw [ek, bd_e, mm_e, mm_e, vv_e, h3', if_neg (show ¬ nI 1 < 0 by decide), e1, bd_e, vv_e, x3, if_neg (show ¬ nI 1 = 0 by decide)]
    have mk : f_X10_key 0 N = some (nI 12, N) := by
      unfold f_X10_key
      rw [w6, bd_e, if_neg (show ¬ nI 1 = 0 by decide)]
      rfl
    exact ⟨_, M2, _, N, ck, mk, Or.inr ⟨1, 12, r', N2, a2, b2', s2, rfl, Or.inr (Or.inl ⟨rfl, rfl⟩), e2, hP, x3, Or.inr ⟨by decide, (f.2 4 (by decide) (by decide) (by decide)).trans (h4' _ _)⟩, (hF0 _ _).t f.f0, g.fm L 0⟩⟩
  · rw [show b2 (s = 1 ∧ (b = a + 6 ∧ B (a) = 115 ∧ B (a + 1) = 112 ∧ B (a + 2) = 114 ∧ B (a + 3) = 101 ∧ B (a + 4) = 97 ∧ B (a + 5) = 100)) = nI 0 from if_neg (by omega)] at w6
    rw [show b2 (s = 1 ∧ (b = a + 3 ∧ B (a) = 111 ∧ B (a + 1) = 100 ∧ B (a + 2) = 100)) = nI 1 from if_pos ⟨h1, hW⟩] at w3
    obtain ⟨r, M2, r', N2, a2, b2', s2, e1, e2, f, g, hP⟩ := (hP2 (nI 2) (-1000000005)).fwd (Or.inl h1)
    have x3 : M2 61 3 = nI 2 := (f.2 3 (by decide) (by decide) (by decide)).trans (h3' _ _)
    have ck : f_X7_readHead 61 M = some (0, M2) := by
      unfold f_X7_readHead
      rw [ek, bd_e, mm_e, mm_e, vv_e, h3', if_neg (show ¬ nI 2 < 0 by decide), e1, bd_e, vv_e, x3, if_neg (show ¬ nI 2 = 0 by decide)]
    have mk : f_X10_key 0 N = some (nI 13, N) := by
      unfold f_X10_key
      rw [w6, bd_e, if_pos (show nI 0 = 0 from rfl), w3, bd_e, if_neg (show ¬ nI 1 = 0 by decide)]
      rfl
    exact ⟨_, M2, _, N, ck, mk, Or.inr ⟨2, 13, r', N2, a2, b2', s2, rfl, Or.inr (Or.inr ⟨rfl, rfl⟩), e2, hP, x3, Or.inr ⟨by decide, (f.2 4 (by decide) (by decide) (by decide)).trans (h4' _ _)⟩, (hF0 _ _).t f.f0, g.fm L 0⟩⟩
  · rw [show b2 (s = 1 ∧ (b = a + 6 ∧ B (a) = 115 ∧ B (a + 1) = 112 ∧ B (a + 2) = 114 ∧ B (a + 3) = 101 ∧ B (a + 4) = 97 ∧ B (a + 5) = 100)) = nI 0 from if_neg n6] at w6
    rw [show b2 (s = 1 ∧ (b = a + 3 ∧ B (a) = 111 ∧ B (a + 1) = 100 ∧ B (a + 2) = 100)) = nI 0 from if_neg n3] at w3
    rw [show b2 (s = 1 ∧ (b = a + 7 ∧ B (a) = 119 ∧ B (a + 1) = 111 ∧ B (a + 2) = 114 ∧ B (a + 3) = 107 ∧ B (a + 4) = 105 ∧ B (a + 5) = 110 ∧ B (a + 6) = 103)) = nI 0 from if_neg n7] at w7
    have hP := hP2 (-nI 1) (-1000000005)
    have ck : f_X7_readHead 61 M = some (0, up (up (up M 61 3 (-nI 1)) 61 4 (-1000000005)) 61 2 (nI a)) := by
      unfold f_X7_readHead
      rw [ek, bd_e, mm_e, mm_e, vv_e, h3', if_pos (show -nI 1 < 0 by decide), vv_e, mm_e, hP.1.2.2.1]
    have mk : f_X10_key 0 N = some (-nI 1, N) := by
      unfold f_X10_key
      rw [w6, bd_e, if_pos (show nI 0 = 0 from rfl), w3, bd_e, if_pos (show nI 0 = 0 from rfl), w7, bd_e, if_pos (show nI 0 = 0 from rfl)]
      rfl
    exact ⟨_, _, _, N, ck, mk, Or.inl ⟨rfl, HBad.of hP (hF0 _ _) FM.r⟩⟩
