/-! what the two readers hold in common while they read -/
theorem TK.cg {n : Nat} {B : Nat → Nat} {M N M' N' : Mem} {a b s : Nat} (h : TK n B M N a b s) (c1 : M' 61 1 = M 61 1) (c8 : M' 61 8 = M 61 8) (c9 : M' 61 9 = M 61 9) (c10 : M' 61 10 = M 61 10) (c62 : M' 62 = M 62) (m0 : ∀ f, 13 ≤ f → f ≤ 18 → N' 0 f = N 0 f) (m12 : N' 12 = N 12) : TK n B M' N' a b s := by
  obtain ⟨hC, hM, h8, h9, h10, h14, h15, hab, hbn, hc⟩ := h
  refine ⟨?_, ?_, c8.trans h8, c9.trans h9, c10.trans h10, (m0 14 (by omega) (by omega)).trans h14, (m0 15 (by omega) (by omega)).trans h15, hab, hbn, ?_⟩
  · obtain ⟨h1, h2, h3⟩ := hC
    exact ⟨h1, c1.trans h2, fun j hj => by rw [c62]; exact h3 j hj⟩
  · obtain ⟨h1, h2, h3⟩ := hM
    exact ⟨h1, (m0 13 (by omega) (by omega)).trans h2, fun j hj => by rw [m12]; exact h3 j hj⟩
  · rw [m0 16 (by omega) (by omega), m0 17 (by omega) (by omega), m0 18 (by omega) (by omega)]
    exact hc
def PSt (n L kc : Nat) (B : Nat → Nat) (M N : Mem) (a b s d lv op no : Nat) : Prop := TK n B M N a b s ∧ M 61 2 = -nI 1 ∧ M 61 3 = nI kc ∧ M 61 7 = nI d ∧ N 0 21 = nI d ∧ N 0 22 = nI L ∧ d ≤ a ∧ M 61 5 = nI lv ∧ N 0 23 = nI lv ∧ N 0 19 = nI op ∧ N 0 20 = nI no
def FC (M M' : Mem) (d : Nat) : Prop := (∀ q, q ≠ 61 → q ≠ 63 → M' q = M q) ∧ M' 61 1 = M 61 1 ∧ M' 61 3 = M 61 3 ∧ M' 61 4 = M 61 4 ∧ ∀ k, k < d → M' 63 k = M 63 k
def FM (L : Nat) (N N' : Mem) (d : Nat) : Prop := (∀ q, q ≠ 0 → q ≠ 1 → N' q = N q) ∧ (∀ f, f < 14 ∨ 23 < f → N' 0 f = N 0 f) ∧ ∀ j, j < L + 2 * d ∨ L + 192 ≤ j → N' 1 j = N 1 j
theorem FC.r {M : Mem} {d : Nat} : FC M M d := ⟨fun _ _ _ => rfl, rfl, rfl, rfl, fun _ _ => rfl⟩
theorem FM.r {L : Nat} {N : Mem} {d : Nat} : FM L N N d := ⟨fun _ _ _ => rfl, fun _ _ => rfl, fun _ _ => rfl⟩
theorem FC.t {M M' M'' : Mem} {d d' : Nat} (h : FC M M' d) (g : FC M' M'' d') (hd : d ≤ d') : FC M M'' d := ⟨fun q h1 h2 => (g.1 q h1 h2).trans (h.1 q h1 h2), g.2.1.trans h.2.1, g.2.2.1.trans h.2.2.1, g.2.2.2.1.trans h.2.2.2.1, fun k hk => (g.2.2.2.2 k (by omega)).trans (h.2.2.2.2 k hk)⟩
theorem FM.t {L : Nat} {N N' N'' : Mem} {d d' : Nat} (h : FM L N N' d) (g : FM L N' N'' d') (hd : d ≤ d') : FM L N N'' d := ⟨fun q h1 h2 => (g.1 q h1 h2).trans (h.1 q h1 h2), fun f hf => (g.2.1 f hf).trans (h.2.1 f hf), fun j hj => (g.2.2 j (by omega)).trans (h.2.2 j hj)⟩
theorem FC.lo {M M' : Mem} {d d' : Nat} (h : FC M M' d) (hd : d' ≤ d) : FC M M' d' := ⟨h.1, h.2.1, h.2.2.1, h.2.2.2.1, fun k hk => h.2.2.2.2 k (by omega)⟩
theorem FM.lo {L : Nat} {N N' : Mem} {d d' : Nat} (h : FM L N N' d) (hd : d' ≤ d) : FM L N N' d' := ⟨h.1, h.2.1, fun j hj => h.2.2 j (by omega)⟩
theorem FT.fc {M M' : Mem} (h : FT M M') (d : Nat) : FC M M' d := ⟨fun q h1 _ => h.1 q h1, h.2 1 (by decide) (by decide) (by decide), h.2 3 (by decide) (by decide) (by decide), h.2 4 (by decide) (by decide) (by decide), fun k _ => by rw [h.1 63 (by decide)]⟩
theorem GT.fm {N N' : Mem} (h : GT N N') (L d : Nat) : FM L N N' d := ⟨fun q h1 _ => h.1 q h1, fun f hf => h.2 f (by omega), fun j _ => by rw [h.1 1 (by decide)]⟩
/-- steps i to j put one value more on the pile -/
def Sg (L kc : Nat) (M N : Mem) (i j : Nat) : Prop := ∀ e, ∃ dp : Nat → Nat, dp i = e ∧ dp j = e + 1 ∧ ∀ k, i ≤ k → k < j → StepOK (nI kc) (M 63 k) (N 1 (L + 2 * k)) (N 1 (L + 2 * k + 1)) (dp k) (dp (k + 1))
theorem Sg.fr {L kc : Nat} {M N M' N' : Mem} {i j d : Nat} (h : Sg L kc M N i j) (c : FC M M' d) (m : FM L N N' d) (hj : j ≤ d) : Sg L kc M' N' i j := by
  intro e
  obtain ⟨dp, h1, h2, h3⟩ := h e
  refine ⟨dp, h1, h2, fun k hi hk => ?_⟩
  rw [c.2.2.2.2 k (by omega), m.2.2 (L + 2 * k) (by omega), m.2.2 (L + 2 * k + 1) (by omega)]
  exact h3 k hi hk
theorem Sg.one {L kc : Nat} {M N : Mem} {i : Nat} (h : ∀ e, StepOK (nI kc) (M 63 i) (N 1 (L + 2 * i)) (N 1 (L + 2 * i + 1)) e (e + 1)) : Sg L kc M N i (i + 1) := by
  intro e
  refine ⟨fun k => if k ≤ i then e else e + 1, if_pos (Nat.le_refl _), if_neg (by omega), fun k hi hk => ?_⟩
  obtain rfl : k = i := by omega
  show StepOK _ _ _ _ (if k ≤ k then e else e + 1) (if k + 1 ≤ k then e else e + 1)
  rw [if_pos (Nat.le_refl _), if_neg (by omega)]
  exact h e
theorem Sg.not {L kc : Nat} {M N : Mem} {i j : Nat} (hij : i < j) (h : Sg L kc M N i j) (g : ∀ e, 1 ≤ e → StepOK (nI kc) (M 63 j) (N 1 (L + 2 * j)) (N 1 (L + 2 * j + 1)) e e) : Sg L kc M N i (j + 1) := by
  intro e
  obtain ⟨dp, h1, h2, h3⟩ := h e
  refine ⟨fun k => if k ≤ j then dp k else e + 1, ?_, if_neg (by omega), fun k hi hk => ?_⟩
  · show (if i ≤ j then dp i else e + 1) = e
    rw [if_pos (by omega)]; exact h1
  · show StepOK _ _ _ _ (if k ≤ j then dp k else e + 1) (if k + 1 ≤ j then dp (k + 1) else e + 1)
    by_cases hkj : k = j
    · subst hkj
      rw [if_pos (Nat.le_refl _), if_neg (by omega), h2]
      exact g (e + 1) (by omega)
    · rw [if_pos (by omega), if_pos (by omega)]
      exact h3 k hi (by omega)
theorem Sg.two {L kc : Nat} {M N : Mem} {i j l : Nat} (hij : i < j) (hjl : j < l) (h : Sg L kc M N i j) (h' : Sg L kc M N j l) (g : ∀ e, 2 ≤ e → StepOK (nI kc) (M 63 l) (N 1 (L + 2 * l)) (N 1 (L + 2 * l + 1)) e (e - 1)) : Sg L kc M N i (l + 1) := by
  intro e
  obtain ⟨dp, h1, h2, h3⟩ := h e
  obtain ⟨dq, g1, g2, g3⟩ := h' (e + 1)
  refine ⟨fun k => if k ≤ j then dp k else if k ≤ l then dq k else e + 1, ?_, ?_, fun k hi hk => ?_⟩
  · show (if i ≤ j then dp i else _) = e
    rw [if_pos (by omega)]; exact h1
  · show (if l + 1 ≤ j then dp (l + 1) else if l + 1 ≤ l then dq (l + 1) else e + 1) = e + 1
    rw [if_neg (by omega), if_neg (by omega)]
  · show StepOK _ _ _ _ (if k ≤ j then dp k else if k ≤ l then dq k else e + 1) (if k + 1 ≤ j then dp (k + 1) else if k + 1 ≤ l then dq (k + 1) else e + 1)
    rcases (show k < j ∨ k = j ∨ (j < k ∧ k < l) ∨ k = l by omega) with c | c | c | c
    · rw [if_pos (by omega), if_pos (by omega)]
      exact h3 k hi c
    · rw [if_pos (by omega), if_neg (by omega), if_pos (by omega), c, h2, ← g1]
      exact g3 j (Nat.le_refl _) hjl
    · rw [if_neg (by omega), if_pos (by omega), if_neg (by omega), if_pos (by omega)]
      exact g3 k (by omega) c.2
    · rw [if_neg (by omega), if_pos (by omega), if_neg (by omega), if_neg (by omega), c, g2]
      exact g (e + 1 + 1) (by omega)
def GD (n L kc : Nat) (B : Nat → Nat) (op no : Nat) (M N : Mem) (a d : Nat) (M' N' : Mem) (a' b' s' d' lv' : Nat) : Prop := PSt n L kc B M' N' a' b' s' d' lv' op no ∧ FC M M' d ∧ FM L N N' d ∧ d < d' ∧ d' + a ≤ a' + d ∧ Sg L kc M' N' d d'
def BD (L : Nat) (M N M' N' : Mem) : Prop := ∃ a' m, a' ≤ 96 ∧ m ≤ 96 ∧ M' 61 2 = nI a' ∧ N' 0 14 = nI a' ∧ M' 61 7 = nI m ∧ FC M M' 0 ∧ FM L N N' 0
def Out (n L kc : Nat) (B : Nat → Nat) (op no : Nat) (M N : Mem) (a d : Nat) (x y : Option (Int32 × Mem)) : Prop := ∃ r M' r' N', x = some (r, M') ∧ y = some (r', N') ∧ ((r' = nI 1 ∧ ∃ a' b' s' d' lv', GD n L kc B op no M N a d M' N' a' b' s' d' lv') ∨ (r' = nI 0 ∧ BD L M N M' N'))
theorem Out.g {n L kc : Nat} {B : Nat → Nat} {op no : Nat} {M N : Mem} {a d : Nat} {r : Int32} {M' N' : Mem} {a' b' s' d' lv' : Nat} (h : GD n L kc B op no M N a d M' N' a' b' s' d' lv') : Out n L kc B op no M N a d (some (r, M')) (some (nI 1, N')) := ⟨r, M', nI 1, N', rfl, rfl, Or.inl ⟨rfl, a', b', s', d', lv', h⟩⟩
theorem Out.b {n L kc : Nat} {B : Nat → Nat} {op no : Nat} {M N : Mem} {a d : Nat} {r : Int32} {M' N' : Mem} (h : BD L M N M' N') : Out n L kc B op no M N a d (some (r, M')) (some (nI 0, N')) := ⟨r, M', nI 0, N', rfl, rfl, Or.inr ⟨rfl, h⟩⟩
theorem BD.fr {L : Nat} {M N M1 N1 M' N' : Mem} {d : Nat} (c : FC M M1 d) (m : FM L N N1 d) (h : BD L M1 N1 M' N') : BD L M N M' N' := by
  obtain ⟨a', m', h1, h2, h3, h4, h5, h6, h7⟩ := h
  exact ⟨a', m', h1, h2, h3, h4, h5, (c.lo (Nat.zero_le _)).t h6 (Nat.le_refl _), (m.lo (Nat.zero_le _)).t h7 (Nat.le_refl _)⟩
/-- one word or sign on -/
theorem PSt.fwd {n L kc : Nat} {B : Nat → Nat} {M N : Mem} {a b s d lv op no : Nat} (h : PSt n L kc B M N a b s d lv op no) (ok : s = 1 ∨ (s = 2 ∧ b ≤ a + 4) ∨ s = 3) : ∃ r M' r' N' a' b' s', f_X7_forward 61 M = some (r, M') ∧ f_X10_goesOn 0 N = some (r', N') ∧ FT M M' ∧ GT N N' ∧ PSt n L kc B M' N' a' b' s' d lv op no ∧ a < a' := by
  obtain ⟨hT, h2, h3, h7, m21, m22, hd, h5, m23, m19, m20⟩ := h
  obtain ⟨r, M', r', N', a', b', s', e1, e2, f, g, hT', ha⟩ := tk_fwd hT ok
  refine ⟨r, M', r', N', a', b', s', e1, e2, f, g, ⟨hT', ?_, ?_, ?_, ?_, ?_, by omega, ?_, ?_, ?_, ?_⟩, ha⟩
  · rw [f.2 2 (by decide) (by decide) (by decide)]; exact h2
  · rw [f.2 3 (by decide) (by decide) (by decide)]; exact h3
  · rw [f.2 7 (by decide) (by decide) (by decide)]; exact h7
  · rw [g.2 21 (by decide)]; exact m21
  · rw [g.2 22 (by decide)]; exact m22
  · rw [f.2 5 (by decide) (by decide) (by decide)]; exact h5
  · rw [g.2 23 (by decide)]; exact m23
  · rw [g.2 19 (by decide)]; exact m19
  · rw [g.2 20 (by decide)]; exact m20
/-- one step written by both -/
theorem PSt.put {n L kc : Nat} {B : Nat → Nat} {M N : Mem} {a b s d lv op no : Nat} (h : PSt n L kc B M N a b s d lv op no) (x w v : Int32) (hd : d + 1 ≤ a) : PSt n L kc B (up (up M 63 d x) 61 7 (nI (d + 1))) (up (up (up N 1 (L + 2 * d) w) 1 (L + 2 * d + 1) v) 0 21 (nI (d + 1))) a b s (d + 1) lv op no := by
  obtain ⟨hT, h2, h3, h7, m21, m22, hd', h5, m23, m19, m20⟩ := h
  have cf : ∀ f, f ≠ 7 → up (up M 63 d x) 61 7 (nI (d + 1)) 61 f = M 61 f := fun f hf => by rw [up_k _ _ _ _ _ hf, up_ne (by decide)]
  have mf : ∀ f, f ≠ 21 → up (up (up N 1 (L + 2 * d) w) 1 (L + 2 * d + 1) v) 0 21 (nI (d + 1)) 0 f = N 0 f := fun f hf => by rw [up_k _ _ _ _ _ hf, up_ne (by decide), up_ne (by decide)]
  refine ⟨hT.cg (cf 1 (by decide)) (cf 8 (by decide)) (cf 9 (by decide)) (cf 10 (by decide)) (by rw [up_ne (by decide), up_ne (by decide)]) (fun f _ _ => mf f (by omega)) (by rw [up_ne (by decide), up_ne (by decide), up_ne (by decide)]), (cf 2 (by decide)).trans h2, (cf 3 (by decide)).trans h3, up_same _ _ _ _, up_same _ _ _ _, (mf 22 (by decide)).trans m22, hd, (cf 5 (by decide)).trans h5, (mf 23 (by decide)).trans m23, (mf 19 (by decide)).trans m19, (mf 20 (by decide)).trans m20⟩
theorem put_fc {M : Mem} {d : Nat} (x : Int32) : FC M (up (up M 63 d x) 61 7 (nI (d + 1))) d := ⟨fun q h1 h2 => by rw [up_ne h1, up_ne h2], by rw [up_k _ _ _ _ _ (by decide), up_ne (by decide)], by rw [up_k _ _ _ _ _ (by decide), up_ne (by decide)], by rw [up_k _ _ _ _ _ (by decide), up_ne (by decide)], fun k hk => by rw [up_ne (by decide), up_k _ _ _ _ _ (by omega)]⟩
theorem put_fm {N : Mem} {L d : Nat} (w v : Int32) (hd : d < 96) : FM L N (up (up (up N 1 (L + 2 * d) w) 1 (L + 2 * d + 1) v) 0 21 (nI (d + 1))) d := ⟨fun q h1 h2 => by rw [up_ne h1, up_ne h2, up_ne h2], fun f hf => by rw [up_k _ _ _ _ _ (by omega), up_ne (by decide), up_ne (by decide)], fun j hj => by rw [up_ne (by decide), up_k _ _ _ _ _ (by omega), up_k _ _ _ _ _ (by omega)]⟩
theorem put_c (M : Mem) (d : Nat) (x z : Int32) : up (up M 63 d x) 61 7 z 63 d = x := by rw [up_ne (by decide), up_same]
theorem put_w (N : Mem) (i : Nat) (w v z : Int32) : up (up (up N 1 i w) 1 (i + 1) v) 0 21 z 1 i = w := by rw [up_ne (by decide), up_k _ _ _ _ _ (by omega), up_same]
theorem put_v (N : Mem) (i : Nat) (w v z : Int32) : up (up (up N 1 i w) 1 (i + 1) v) 0 21 z 1 (i + 1) = v := by rw [up_ne (by decide), up_same]
theorem sgn_ok {kc u : Nat} (h : sgnN u) (e : Nat) (he : 2 ≤ e) : StepOK (nI kc) (-nI u) (nI 2) (nI u) e (e - 1) := by
  refine Or.inr (Or.inr (Or.inr ⟨rfl, rfl, ?_, he, by omega⟩))
  rcases h with rfl | rfl | rfl | rfl | rfl | rfl | rfl | rfl | rfl
  · exact Or.inl rfl
  · exact Or.inr (Or.inl rfl)
  · exact Or.inr (Or.inr (Or.inl rfl))
  · exact Or.inr (Or.inr (Or.inr (Or.inl rfl)))
  · exact Or.inr (Or.inr (Or.inr (Or.inr (Or.inl rfl))))
  · exact Or.inr (Or.inr (Or.inr (Or.inr (Or.inr (Or.inl rfl)))))
  · exact Or.inr (Or.inr (Or.inr (Or.inr (Or.inr (Or.inr (Or.inl rfl))))))
  · exact Or.inr (Or.inr (Or.inr (Or.inr (Or.inr (Or.inr (Or.inr (Or.inl rfl)))))))
  · exact Or.inr (Or.inr (Or.inr (Or.inr (Or.inr (Or.inr (Or.inr (Or.inr rfl)))))))
/-- a sign between two parts: one round of a loop -/
theorem bin {n L kc : Nat} {B : Nat → Nat} {op no : Nat} {g1 g2 : Mem → Option (Int32 × Mem)} (hL : L + 192 ≤ 3510) (H : ∀ M N a b s d lv, PSt n L kc B M N a b s d lv op no → Out n L kc B op no M N a d (g1 M) (g2 N))
    {M0 N0 M N : Mem} {a0 d0 a b s d lv : Nat} (hG : GD n L kc B op no M0 N0 a0 d0 M N a b s d lv) (hs : s = 3) (hu : sgnN (B a)) :
    (∃ M' N' a' b' s' d' lv', GD n L kc B op no M0 N0 a0 d0 M' N' a' b' s' d' lv' ∧ a < a' ∧ (∀ k : Mem → Option (Int32 × Mem), (bd (f_X7_forward 61 M) fun _ M => bd (g1 M) fun _ M => bd (f_X7_put 61 (-nI (B a)) M) fun _ M => k M) = k M') ∧ ∀ k : Mem → Option (Int32 × Mem), (bd (f_X10_goesOn 0 N) fun _ M => bd (g2 M) fun x M => if x = 0 then some (0, M) else bd (f_X10_step 0 2 (nI (B a)) M) fun _ M => k M) = k N') ∨
    (∃ M' N', BD L M0 N0 M' N' ∧ (∀ k : Mem → Option (Int32 × Mem), (bd (f_X7_forward 61 M) fun _ M => bd (g1 M) fun _ M => bd (f_X7_put 61 (-nI (B a)) M) fun _ M => k M) = k M') ∧ ∀ k : Mem → Option (Int32 × Mem), (bd (f_X10_goesOn 0 N) fun _ M => bd (g2 M) fun x M => if x = 0 then some (0, M) else bd (f_X10_step 0 2 (nI (B a)) M) fun _ M => k M) = some (nI 0, N')) := by
  obtain ⟨hP, hFC, hFM, hdd, hda, hSg⟩ := hG
  have hd' : d ≤ a := hP.2.2.2.2.2.2.1
  obtain ⟨r, M1, r', N1, a1, b1, s1, e1, e2, f, g, hP1, ha1⟩ := hP.fwd (Or.inr (Or.inr hs))
  obtain ⟨r2, M2, r2', N2, e3, e4, hO⟩ := H M1 N1 a1 b1 s1 d lv hP1
  rcases hO with ⟨rfl, a2, b2, s2, d2, lv2, hP2, hFC2, hFM2, hdd2, hda2, hSg2⟩ | ⟨rfl, hB⟩
  · have hn := hP2.1.n
    have p1 := c_put (-nI (B a)) hP2.2.2.2.1 (show d2 < 96 by omega)
    have p2 := m_step 2 (nI (B a)) hP2.2.2.2.2.1 hP2.2.2.2.2.2.1 hL (show d2 < 96 by omega)
    refine Or.inl ⟨_, _, a2, b2, s2, d2 + 1, lv2, ⟨hP2.put (-nI (B a)) 2 (nI (B a)) (by omega), ?_, ?_, by omega, by omega, ?_⟩, by omega, fun k => ?_, fun k => ?_⟩
    · exact ((hFC.t (f.fc d0) (Nat.le_refl _)).t hFC2 (by omega)).t (put_fc _) (by omega)
    · exact ((hFM.t (g.fm L d0) (Nat.le_refl _)).t hFM2 (by omega)).t (put_fm _ _ (by omega)) (by omega)
    · refine Sg.two hdd hdd2 ?_ ?_ ?_
      · exact ((hSg.fr (f.fc d) (g.fm L d) (Nat.le_refl _)).fr hFC2 hFM2 (Nat.le_refl _)).fr (put_fc _) (put_fm _ _ (by omega)) (by omega)
      · exact hSg2.fr (put_fc _) (put_fm _ _ (by omega)) (by omega)
      · intro e he
        rw [put_c, put_w, put_v]
        exact sgn_ok hu e he
    · rw [e1, bd_e, e3, bd_e, p1, bd_e]
    · rw [e2, bd_e, e4, bd_e, if_neg (show ¬ nI 1 = 0 by decide), p2, bd_e]
  · obtain ⟨a', m, h1, h2, h3, h4, h5, h6, h7⟩ := hB.fr (hFC.t (f.fc d0) (Nat.le_refl _)) (hFM.t (g.fm L d0) (Nat.le_refl _))
    obtain ⟨r3, M3, e5, m', hm', q1, q2, q3⟩ := c_put' (-nI (B a)) h5 h2
    refine Or.inr ⟨M3, N2, ⟨a', m', h1, hm', (q3 2 (by decide)).trans h3, h4, q1, ?_, h7⟩, fun k => ?_, fun k => ?_⟩
    · exact h6.t ⟨q2, q3 1 (by decide), q3 3 (by decide), q3 4 (by decide), fun k hk => absurd hk (by omega)⟩ (Nat.le_refl _)
    · rw [e1, bd_e, e3, bd_e, e5, bd_e]
    · rw [e2, bd_e, e4, bd_e, if_pos (show nI 0 = 0 from rfl)]
      rfl
theorem lq10 {Q : Option (Int32 × Mem) → Option (Int32 × Mem) → Prop} {B1 : (Int32 → Mem → Option (Int32 × Mem)) → Int32 → Mem → Option (Int32 × Mem)} {B2 : (Mem → Option (Int32 × Mem)) → Mem → Option (Int32 × Mem)} (J : Nat → Int32 → Mem → Mem → Prop) (Z : Mem → Prop) (hz : ∀ rc v M, Z M → B1 rc v M = some (nI 0, M))
    (hs : ∀ (n : Nat) (rc : Int32 → Mem → Option (Int32 × Mem)) (rd : Mem → Option (Int32 × Mem)) (v : Int32) (M N : Mem), J n v M N → (∀ m v' M' N', m < n → J m v' M' N' → Q (rc v' M') (rd N')) → (∀ v' M', Z M' → rc v' M' = some (nI 0, M')) → Q (B1 rc v M) (B2 rd N)) : ∀ f g n v M N, n + 1 < f → n < g → J n v M N → Q (it1 B1 f v M) (it0 B2 g N) := by
  intro f
  induction f with
  | zero => intro g n v M N h; omega
  | succ f ih =>
    intro g
    cases g with
    | zero => intro n v M N h h2; omega
    | succ g =>
      intro n v M N h h2 hJ
      refine hs n _ _ v M N hJ (fun m v' M' N' hm hJ' => ih g m v' M' N' (by omega) (by omega) hJ') (fun v' M' hZ => ?_)
      cases f with
      | zero => omega
      | succ f => exact hz _ v' M' hZ
theorem it1_z {B1 : (Int32 → Mem → Option (Int32 × Mem)) → Int32 → Mem → Option (Int32 × Mem)} {x : Option (Int32 × Mem)} {v : Int32} {M : Mem} (h : ∀ rc, B1 rc v M = x) : ∀ f, 0 < f → it1 B1 f v M = x := by
  intro f hf
  cases f with
  | zero => omega
  | succ f => exact h _
theorem it1_o {B1 : (Int32 → Mem → Option (Int32 × Mem)) → Int32 → Mem → Option (Int32 × Mem)} {Q : Option (Int32 × Mem) → Prop} {v : Int32} {M : Mem} (h : ∀ rc, (∀ v' M', ∃ rc', rc v' M' = B1 rc' v' M') → Q (B1 rc v M)) : ∀ f, 1 < f → Q (it1 B1 f v M) := by
  intro f hf
  cases f with
  | zero => omega
  | succ f =>
    cases f with
    | zero => omega
    | succ f => exact h _ (fun v' M' => ⟨_, rfl⟩)
/-- the class's loop of one level -/
def cB (p1 c : Int32) (g1 : Mem → Option (Int32 × Mem)) (rc3 : Int32 → Mem → Option (Int32 × Mem)) (v2 : Int32) (M : Mem) : Option (Int32 × Mem) :=
        if v2 < c then
          vv (M 61 2) fun x4 =>
          if x4 < 0 then
            bd (f_X7_signHere 61 M) fun x5 M =>
            bd (f_X7_joins p1 x5 M) fun x6 M =>
            if x6 = 0 then
              some (0, M)
            else
              bd (f_X7_signHere 61 M) fun x7 M =>
              bd (f_X7_forward 61 M) fun _ M =>
              bd (g1 M) fun _ M =>
              bd (f_X7_put 61 (-x7) M) fun _ M =>
              rc3 (v2 + 1) M
          else
            some (0, M)
        else
          some (0, M)
theorem sgn_lt {u : Nat} (h : sgnN u) : u < 128 ∧ 0 < u := by
  unfold sgnN at h; omega
/-- the class's test of one level at a state -/
theorem cB_no {n L kc : Nat} {B : Nat → Nat} {op no : Nat} {M N : Mem} {a b s d lv l : Nat} {sg : Nat → Prop} (hP : PSt n L kc B M N a b s d lv op no) (hj0 : ∀ u M, u < 256 → ¬ sg u → f_X7_joins (nI l) (cbv u) M = some (nI 0, M)) (h0 : ¬ sg 0) (hx : ¬ (s = 3 ∧ sg (B a))) (c : Int32) (g1 : Mem → Option (Int32 × Mem)) (rc : Int32 → Mem → Option (Int32 × Mem)) (v : Int32) : cB (nI l) c g1 rc v M = some (nI 0, M) := by
  have hn := hP.1.n
  unfold cB
  by_cases hv : v < c
  case neg => rw [if_neg hv]; rfl
  rw [if_pos hv, vv_e, hP.2.1, if_pos (show -nI 1 < 0 by decide), c_sign hP.1, bd_e]
  have hj : f_X7_joins (nI l) (if s = 3 then cbv (B a) else nI 0) M = some (nI 0, M) := by
    by_cases h3 : s = 3
    · rw [if_pos h3]; exact hj0 _ M (hn.2.2.2.2.2.2 h3).2 (fun q => hx ⟨h3, q⟩)
    · rw [if_neg h3]; exact hj0 0 M (by omega) h0
  rw [hj, bd_e, if_pos (show nI 0 = 0 from rfl)]
  rfl
theorem cB_yes {n L kc : Nat} {B : Nat → Nat} {op no : Nat} {M N : Mem} {a b s d lv l : Nat} {sg : Nat → Prop} (hP : PSt n L kc B M N a b s d lv op no) (hj1 : ∀ u M, sg u → f_X7_joins (nI l) (nI u) M = some (nI 1, M)) (hsg : sgnN (B a)) (h3 : s = 3) (hx : sg (B a)) {c : Int32} (g1 : Mem → Option (Int32 × Mem)) (rc : Int32 → Mem → Option (Int32 × Mem)) {v : Int32} (hv : v < c) : cB (nI l) c g1 rc v M = (bd (f_X7_forward 61 M) fun _ M => bd (g1 M) fun _ M => bd (f_X7_put 61 (-nI (B a)) M) fun _ M => rc (v + 1) M) := by
  have hn := hP.1.n
  have hu := sgn_lt hsg
  have hsgn := c_sign hP.1
  rw [if_pos h3, show cbv (B a) = nI (B a) from if_pos hu.1] at hsgn
  unfold cB
  rw [if_pos hv, vv_e, hP.2.1, if_pos (show -nI 1 < 0 by decide), hsgn, bd_e, hj1 _ M hx, bd_e, if_neg (show ¬ nI 1 = 0 by decide), hsgn, bd_e]
theorem cB_bad {l m : Nat} {M : Mem} (h : M 61 2 = nI m) (hm : m ≤ 96) (c : Int32) (g1 : Mem → Option (Int32 × Mem)) (rc : Int32 → Mem → Option (Int32 × Mem)) (v : Int32) : cB (nI l) c g1 rc v M = some (nI 0, M) := by
  unfold cB
  by_cases hv : v < c
  case neg => rw [if_neg hv]; rfl
  rw [if_pos hv, vv_e, h, if_neg (show ¬ nI m < 0 from nI_nlt (a := m) (b := 0) (by omega) (by omega))]
  rfl
/-- a level that goes round -/
theorem lvl {n L kc : Nat} {B : Nat → Nat} {op no l : Nat} {g1 g2 : Mem → Option (Int32 × Mem)} {sg : Nat → Prop} {B2 : (Mem → Option (Int32 × Mem)) → Mem → Option (Int32 × Mem)} (hL : L + 192 ≤ 3510) (H : ∀ M N a b s d lv, PSt n L kc B M N a b s d lv op no → Out n L kc B op no M N a d (g1 M) (g2 N))
    (hsg : ∀ u, sg u → sgnN u) (hj1 : ∀ u M, sg u → f_X7_joins (nI l) (nI u) M = some (nI 1, M)) (hj0 : ∀ u M, u < 256 → ¬ sg u → f_X7_joins (nI l) (cbv u) M = some (nI 0, M))
    (hB0 : ∀ rc M N a b s, TK n B M N a b s → ¬ (s = 3 ∧ sg (B a)) → B2 rc N = some (nI 1, N))
    (hB1 : ∀ rc M N a b s, TK n B M N a b s → s = 3 → sg (B a) → B2 rc N = (bd (f_X10_goesOn 0 N) fun _ M => bd (g2 M) fun x M => if x = 0 then some (0, M) else bd (f_X10_step 0 2 (nI (B a)) M) fun _ M => rc M))
    {M N : Mem} {a b s d lv : Nat} (hP : PSt n L kc B M N a b s d lv op no) : Out n L kc B op no M N a d (bd (g1 M) fun _ M => it1 (cB (nI l) 96 g1) fuel 0 M) (bd (g2 N) fun x M => if x = 0 then some (0, M) else it0 B2 fuel M) := by
  have h0 : ¬ sg 0 := fun q => absurd (sgn_lt (hsg 0 q)).2 (by omega)
  obtain ⟨r1, M1, r1', N1, e1, e2, hO⟩ := H M N a b s d lv hP
  rw [e1, bd_e, e2, bd_e]
  rcases hO with ⟨rfl, a1, b1, s1, d1, lv1, hG⟩ | ⟨rfl, hB⟩
  case inr =>
    rw [if_pos (show nI 0 = 0 from rfl)]
    obtain ⟨a', m, h1, h2, h3, h4, h5, h6, h7⟩ := id hB
    rw [it1_z (fun rc => cB_bad (l := l) h3 h1 96 g1 rc 0) fuel (by decide)]
    exact Out.b hB
  rw [if_neg (show ¬ nI 1 = 0 by decide)]
  have hn1 := hG.1.1.n
  refine lq10 (fun m v M' N' => ∃ k a' b' s' d' lv', m + a' = n ∧ v = nI k ∧ k ≤ a' ∧ GD n L kc B op no M N a d M' N' a' b' s' d' lv') (fun M' => ∃ m, m ≤ 96 ∧ M' 61 2 = nI m) (fun rc v M' hZ => ?_) ?_ fuel fuel (n - a1) 0 M1 N1 (by show n - a1 + 1 < 5000; omega) (by show n - a1 < 5000; omega) ⟨0, a1, b1, s1, d1, lv1, by omega, rfl, by omega, hG⟩
  · obtain ⟨m, hm, e⟩ := hZ
    exact cB_bad e hm 96 g1 rc v
  · rintro m rc rd _ M2 N2 ⟨k, a2, b2, s2, d2, lv2, hm, rfl, hk, hG2⟩ ih hz
    have hn2 := hG2.1.1.n
    by_cases hx : s2 = 3 ∧ sg (B a2)
    · have hss := hsg _ hx.2
      rw [cB_yes hG2.1 hj1 hss hx.1 hx.2 g1 rc (v := nI k) (c := 96) (show nI k < 96 from nI_lt (a := k) (b := 96) (by omega) (by decide)), hB1 rd M2 N2 a2 b2 s2 hG2.1.1 hx.1 hx.2]
      rcases bin hL H hG2 hx.1 hss with ⟨M3, N3, a3, b3, s3, d3, lv3, hG3, ha3, q1, q2⟩ | ⟨M3, N3, hBD, q1, q2⟩
      · rw [q1, q2, show nI k + 1 = nI (k + 1) from nI_add k 1]
        have hn3 := hG3.1.1.n
        exact ih (n - a3) _ M3 N3 (by omega) ⟨k + 1, a3, b3, s3, d3, lv3, by omega, rfl, by omega, hG3⟩
      · rw [q1, q2]
        obtain ⟨a', m', h1, h2, h3, h4, h5, h6, h7⟩ := id hBD
        rw [hz _ M3 ⟨a', h1, h3⟩]
        exact Out.b hBD
    · rw [cB_no hG2.1 hj0 h0 hx, hB0 rd M2 N2 a2 b2 s2 hG2.1.1 hx]
      exact Out.g hG2
/-- the level of tests, which goes round at most once -/
theorem lvt {n L kc : Nat} {B : Nat → Nat} {op no l : Nat} {g1 g2 : Mem → Option (Int32 × Mem)} {sg : Nat → Prop} {B2 : Mem → Option (Int32 × Mem)} (hL : L + 192 ≤ 3510) (H : ∀ M N a b s d lv, PSt n L kc B M N a b s d lv op no → Out n L kc B op no M N a d (g1 M) (g2 N))
    (hsg : ∀ u, sg u → sgnN u) (hj1 : ∀ u M, sg u → f_X7_joins (nI l) (nI u) M = some (nI 1, M)) (hj0 : ∀ u M, u < 256 → ¬ sg u → f_X7_joins (nI l) (cbv u) M = some (nI 0, M))
    (hB0 : ∀ M N a b s, TK n B M N a b s → ¬ (s = 3 ∧ sg (B a)) → B2 N = some (nI 1, N))
    (hB1 : ∀ M N a b s, TK n B M N a b s → s = 3 → sg (B a) → B2 N = (bd (f_X10_goesOn 0 N) fun _ M => bd (g2 M) fun x M => if x = 0 then some (0, M) else bd (f_X10_step 0 2 (nI (B a)) M) fun _ M => some (1, M)))
    {M N : Mem} {a b s d lv : Nat} (hP : PSt n L kc B M N a b s d lv op no) : Out n L kc B op no M N a d (bd (g1 M) fun _ M => it1 (cB (nI l) 1 g1) fuel 0 M) (bd (g2 N) fun x M => if x = 0 then some (0, M) else B2 M) := by
  have h0 : ¬ sg 0 := fun q => absurd (sgn_lt (hsg 0 q)).2 (by omega)
  obtain ⟨r1, M1, r1', N1, e1, e2, hO⟩ := H M N a b s d lv hP
  rw [e1, bd_e, e2, bd_e]
  rcases hO with ⟨rfl, a1, b1, s1, d1, lv1, hG⟩ | ⟨rfl, hB⟩
  case inr =>
    rw [if_pos (show nI 0 = 0 from rfl)]
    obtain ⟨a', m, h1, h2, h3, h4, h5, h6, h7⟩ := id hB
    rw [it1_z (fun rc => cB_bad (l := l) h3 h1 1 g1 rc 0) fuel (by decide)]
    exact Out.b hB
  rw [if_neg (show ¬ nI 1 = 0 by decide)]
  by_cases hx : s1 = 3 ∧ sg (B a1)
  · have hss := hsg _ hx.2
    refine it1_o (Q := fun x => Out n L kc B op no M N a d x (B2 N1)) (fun rc hrc => ?_) fuel (by decide)
    rw [cB_yes hG.1 hj1 hss hx.1 hx.2 g1 rc (v := 0) (c := 1) (by decide), hB1 M1 N1 a1 b1 s1 hG.1.1 hx.1 hx.2]
    have stp : ∀ M', rc (0 + 1) M' = some (nI 0, M') := fun M' => by
      obtain ⟨rc', e⟩ := hrc (0 + 1) M'
      rw [e]
      unfold cB
      rw [if_neg (by decide)]
      rfl
    rcases bin hL H hG hx.1 hss with ⟨M3, N3, a3, b3, s3, d3, lv3, hG3, ha3, q1, q2⟩ | ⟨M3, N3, hBD, q1, q2⟩
    · rw [q1, q2, stp]
      exact Out.g hG3
    · rw [q1, q2, stp]
      exact Out.b hBD
  · rw [it1_z (fun rc => cB_no hG.1 hj0 h0 hx 1 g1 rc 0) fuel (by decide), hB0 M1 N1 a1 b1 s1 hG.1.1 hx]
    exact Out.g hG
