/-! the pieces -/
theorem l_40b : (40 : Int32) = nI 40 := congrArg Int32.ofNat (Eq.refl 40)
theorem l_41 : (41 : Int32) = nI 41 := congrArg Int32.ofNat (Eq.refl 41)
theorem cbv_eq {u c : Nat} (hu : u < 256) (hc : c < 128) : (cbv u = nI c) = (u = c) := by
  apply propext
  unfold cbv
  by_cases h : u < 128
  · rw [if_pos h, neq (by omega) (by omega)]
  · rw [if_neg h, gn_eq (by omega) (by omega)]
    omega
theorem sgx {n : Nat} {B : Nat → Nat} {M N : Mem} {a b s : Nat} (h : TK n B M N a b s) {c : Nat} (h0 : 0 < c) (hc : c < 128) : ((if s = 3 then cbv (B a) else nI 0) = nI c) ↔ (s = 3 ∧ B a = c) := by
  have hn := h.n
  by_cases h3 : s = 3
  · rw [if_pos h3, cbv_eq (hn.2.2.2.2.2.2 h3).2 hc]
    exact ⟨fun q => ⟨h3, q⟩, fun q => q.2⟩
  · rw [if_neg h3, neq (by omega) (by omega)]
    exact ⟨fun q => absurd q (by omega), fun q => absurd q.1 h3⟩
theorem TK.let {n : Nat} {B : Nat → Nat} {M N : Mem} {a b s : Nat} (h : TK n B M N a b s) (h3 : s = 3) : N 0 18 = nI (B a) := by
  obtain ⟨hC, hM, h8, h9, h10, h14, h15, hab, hbn, hc⟩ := h
  rcases hc with ⟨c, c1, _⟩ | ⟨c, c1, c4, c2, g⟩ | ⟨c, c1, _, c2, _⟩ | ⟨c, c1, _, _, c2, _⟩ | ⟨c, c1, _⟩ | ⟨c, c1, _⟩
  · omega
  · exact g
  · omega
  · omega
  · omega
  · omega
/-- the class at a leaf or at a fault -/
theorem c_leaf {n : Nat} {B : Nat → Nat} {M N : Mem} {a b s op no : Nat} (h : TK n B M N a b s) (ho : op ≤ 8) (hno : no ≤ 8) (gl : Nat → Int32 → Int32 → Int32 → Mem → Option (Int32 × Mem)) (gp : Nat → Int32 → Int32 → Mem → Option (Int32 × Mem)) (hx : ¬ (s = 3 ∧ B a = 33 ∧ no < 8)) (hy : ¬ (s = 3 ∧ B a = 40 ∧ op < 8)) : F_X7_readPiece gl gp 61 (nI op) (nI no) M = bd (f_X7_readLeaf 61 M) fun _ M => some (0, M) := by
  have h33 := sgx h (c := 33) (by omega) (by omega)
  have h40 := sgx h (c := 40) (by omega) (by omega)
  have hs := c_sign h
  generalize (if s = 3 then cbv (B a) else nI 0) = x at h33 h40 hs
  unfold F_X7_readPiece
  rw [hs, bd_e, jn_e]
  have k2 : (if x = 40 then (if nI op < 8 then (bd (f_X7_forward 61 M) fun _ M => bd (gl 61 0 (nI op + 1) (nI no) M) fun _ M => vv (M 61 2) fun x7 => if x7 < 0 then (bd (f_X7_readClosing 61 M) fun _ M => some ((0 : Int32), M)) else some ((0 : Int32), M)) else bd (f_X7_readLeaf 61 M) fun _ M => some ((0 : Int32), M)) else bd (f_X7_readLeaf 61 M) fun _ M => some ((0 : Int32), M)) = bd (f_X7_readLeaf 61 M) fun _ M => some ((0 : Int32), M) := by
    by_cases e : x = 40
    · rw [if_pos e, if_neg (show ¬ nI op < 8 from nI_nlt (a := op) (b := 8) (by have := h40.mp e; omega) (by have := h40.mp e; omega))]
    · rw [if_neg e]
  by_cases e : x = 33
  · rw [if_pos e, if_neg (show ¬ nI no < 8 from nI_nlt (a := no) (b := 8) (by have := h33.mp e; omega) (by have := h33.mp e; omega))]
    show (jn _ _) = _
    rw [jn_e]
    exact k2
  · rw [if_neg e]
    show (jn _ _) = _
    rw [jn_e]
    exact k2
theorem m_nosign {n : Nat} {B : Nat → Nat} {M N : Mem} {a b s op no km : Nat} (h : TK n B M N a b s) (m19 : N 0 19 = nI op) (m20 : N 0 20 = nI no) (ho : op ≤ 8) (hno : no ≤ 8) {x17 x10 : Mem → Option (Int32 × Mem)} (hx : ¬ (s = 3 ∧ B a = 33 ∧ no < 8)) (hy : ¬ (s = 3 ∧ B a = 40 ∧ op < 8)) :
    (bd (f_X10_isSign 0 33 N) fun x4 M => jn (fun (M : Mem) => bd (f_X10_isSign 0 40 M) fun x6 M => if x6 = 0 then some ((0 : Int32), M) else vv (M 0 19) fun x7 => if x7 = 8 then some (0, M) else x10 M) fun k5 => if x4 = 0 then k5 M else vv (M 0 20) fun x14 => if x14 < 8 then x17 M else k5 M) = some (nI 0, N) := by
  rw [show f_X10_isSign 0 33 N = _ from m_sign h 33 (by omega), bd_e, jn_e]
  have k5 : (bd (f_X10_isSign 0 40 N) fun x6 M => if x6 = 0 then some ((0 : Int32), M) else vv (M 0 19) fun x7 => if x7 = 8 then some (0, M) else x10 M) = some (nI 0, N) := by
    rw [show f_X10_isSign 0 40 N = _ from m_sign h 40 (by omega), bd_e, if_b2]
    by_cases e : s = 3 ∧ B a = 40
    · rw [if_pos e, vv_e, m19, if_pos (show nI op = 8 by rw [show op = 8 by omega]; rfl)]
      rfl
    · rw [if_neg e]; rfl
  rw [if_b2]
  by_cases e : s = 3 ∧ B a = 33
  · rw [if_pos e, vv_e, m20, if_neg (show ¬ nI no < 8 from nI_nlt (a := no) (b := 8) (by omega) (by omega))]
    exact k5
  · rw [if_neg e]
    exact k5
theorem pc_num {n L kc km : Nat} {B : Nat → Nat} {M N : Mem} {a b s d lv op no : Nat} (hL : L + 192 ≤ 3510) (hP : PSt n L kc B M N a b s d lv op no) (ho : op ≤ 8) (hno : no ≤ 8) (hkc : kc < 3) (h2 : s = 2) (h4 : b ≤ a + 4)
    (grl : Nat → Int32 → Int32 → Int32 → Mem → Option (Int32 × Mem)) (grp : Nat → Int32 → Int32 → Mem → Option (Int32 × Mem)) (q1 q2 q3 q4 q5 q6 : Nat → Int32 → Mem → Option (Int32 × Mem)) : Out n L kc B op no M N a d (F_X7_readPiece grl grp 61 (nI op) (nI no) M) (F_X10_part0 q1 q2 q3 q4 q5 q6 0 (nI km) N) := by
  obtain ⟨hT, c2, c3, c7, m21, m22, hd, c5, m23, m19, m20⟩ := hP
  have hn := hT.n
  have hx : (∀ j, a ≤ j → j < b → 48 ≤ B j ∧ B j ≤ 57) ∧ N 0 16 = nI 2 ∧ N 0 17 = nI (vl B a (b - a)) := by
    obtain ⟨_, _, _, _, _, _, _, _, _, hc⟩ := hT
    rcases hc with ⟨c, _⟩ | ⟨c, _⟩ | ⟨c, _⟩ | ⟨c, _, _, g1, g2, g3⟩ | ⟨c, c', _⟩ | ⟨c, _⟩
    · omega
    · omega
    · omega
    · exact ⟨g1, g2, g3⟩
    · omega
    · omega
  obtain ⟨hdg, m16, m17⟩ := hx
  have hv : vl B a (b - a) < 10000 := by
    have h1 := vl_lt (B := B) (a := a) (b - a) (fun i hi => (hdg (a + i) (by omega) (by omega)).2)
    have h2 : 10 ^ (b - a) ≤ 10 ^ 4 := Nat.pow_le_pow_right (by omega) (by omega)
    omega
  generalize vl B a (b - a) = v at hv m17
  have hnum : f_X7_numberHere 61 M = some (N 0 17, M) := by
    rw [c_num hT h2 h4]
    obtain ⟨_, _, _, _, _, _, _, _, _, hc⟩ := hT
    rcases hc with ⟨c, _⟩ | ⟨c, _⟩ | ⟨c, _⟩ | ⟨c, _, _, g1, g2, g3⟩ | ⟨c, c', _⟩ | ⟨c, _⟩
    · omega
    · omega
    · omega
    · rw [g3]
    · omega
    · omega
  rw [m17] at hnum
  have e1 := c_put (nI v) c7 (show d < 96 by omega)
  have e2 := m_step 0 (nI v) m21 m22 hL (show d < 96 by omega)
  have cf : ∀ f, f ≠ 7 → f ≠ 5 → up (up (up M 63 d (nI v)) 61 7 (nI (d + 1))) 61 5 (nI (lv + 1)) 61 f = M 61 f := fun f h1 h2 => by rw [up_k _ _ _ _ _ h2, up_k _ _ _ _ _ h1, up_ne (by decide)]
  have mf : ∀ f, f ≠ 21 → f ≠ 23 → up (up (up (up N 1 (L + 2 * d) 0) 1 (L + 2 * d + 1) (nI v)) 0 21 (nI (d + 1))) 0 23 (nI (lv + 1)) 0 f = N 0 f := fun f h1 h2 => by rw [up_k _ _ _ _ _ h2, up_k _ _ _ _ _ h1, up_ne (by decide), up_ne (by decide)]
  have hT1 : TK n B (up (up (up M 63 d (nI v)) 61 7 (nI (d + 1))) 61 5 (nI (lv + 1))) (up (up (up (up N 1 (L + 2 * d) 0) 1 (L + 2 * d + 1) (nI v)) 0 21 (nI (d + 1))) 0 23 (nI (lv + 1))) a b s := hT.cg (cf 1 (by decide) (by decide)) (cf 8 (by decide) (by decide)) (cf 9 (by decide) (by decide)) (cf 10 (by decide) (by decide)) (by rw [up_ne (by decide), up_ne (by decide), up_ne (by decide)]) (fun f _ _ => mf f (by omega) (by omega)) (by rw [up_ne (by decide), up_ne (by decide), up_ne (by decide), up_ne (by decide)])
  obtain ⟨r, M', r', N', a', b', s', f1, f2, f, g, hT', ha⟩ := tk_fwd hT1 (Or.inr (Or.inl ⟨h2, h4⟩))
  rw [c_leaf hT ho hno grl grp (by omega) (by omega)]
  have cl : f_X7_readLeaf 61 M = some (nI 0, M') := by
    unfold f_X7_readLeaf
    rw [c_name hT c3 hkc, bd_e, c_isNum hT, bd_e, jn_e, if_b2, if_pos ⟨h2, h4⟩, hnum, bd_e, e1, bd_e]
    dsimp only
    rw [vv_e, mm_e, up_k _ _ _ _ _ (by decide), up_ne (by decide), c5, show nI lv + 1 = nI (lv + 1) from nI_add lv 1, f1, bd_e]
    rfl
  have ml : F_X10_part0 q1 q2 q3 q4 q5 q6 0 (nI km) N = some (nI 1, N') := by
    unfold F_X10_part0
    rw [vv_e, m16, if_pos (show nI 2 = 2 from rfl), vv_e, m17, e2, bd_e, vv_e, mm_e, up_k _ _ _ _ _ (by decide), up_ne (by decide), up_ne (by decide), m23, show nI lv + 1 = nI (lv + 1) from nI_add lv 1, f2, bd_e]
    rfl
  rw [cl, bd_e, ml]
  have FCt : FC M M' d := (show FC M (up (up (up M 63 d (nI v)) 61 7 (nI (d + 1))) 61 5 (nI (lv + 1))) d from ⟨fun q h1 h2 => by rw [up_ne h1, up_ne h1, up_ne h2], cf 1 (by decide) (by decide), cf 3 (by decide) (by decide), cf 4 (by decide) (by decide), fun k hk => by rw [up_ne (by decide), up_ne (by decide), up_k _ _ _ _ _ (by omega)]⟩).t (f.fc d) (Nat.le_refl _)
  have FMt : FM L N N' d := (show FM L N (up (up (up (up N 1 (L + 2 * d) 0) 1 (L + 2 * d + 1) (nI v)) 0 21 (nI (d + 1))) 0 23 (nI (lv + 1))) d from ⟨fun q h1 h2 => by rw [up_ne h1, up_ne h1, up_ne h2, up_ne h2], fun f hf => mf f (by omega) (by omega), fun j hj => by rw [up_ne (by decide), up_ne (by decide), up_k _ _ _ _ _ (by omega), up_k _ _ _ _ _ (by omega)]⟩).t (g.fm L d) (Nat.le_refl _)
  refine Out.g (lv' := lv + 1) (d' := d + 1) ⟨⟨hT', ?_, ?_, ?_, ?_, ?_, by omega, ?_, ?_, ?_, ?_⟩, FCt, FMt, Nat.lt_succ_self d, by omega, Sg.one (fun e => ?_)⟩
  · rw [f.2 2 (by decide) (by decide) (by decide), cf 2 (by decide) (by decide)]; exact c2
  · rw [f.2 3 (by decide) (by decide) (by decide), cf 3 (by decide) (by decide)]; exact c3
  · rw [f.2 7 (by decide) (by decide) (by decide), up_k _ _ _ _ _ (by decide), up_same]
  · rw [g.2 21 (by decide), up_k _ _ _ _ _ (by decide), up_same]
  · rw [g.2 22 (by decide), mf 22 (by decide) (by decide)]; exact m22
  · rw [f.2 5 (by decide) (by decide) (by decide), up_same]
  · rw [g.2 23 (by decide), up_same]
  · rw [g.2 19 (by decide), mf 19 (by decide) (by decide)]; exact m19
  · rw [g.2 20 (by decide), mf 20 (by decide) (by decide)]; exact m20
  · rw [f.1 63 (by decide), g.1 1 (by decide), up_ne (by decide), up_ne (by decide), up_same, up_ne (by decide), up_ne (by decide), up_k _ _ _ _ _ (by omega), up_same, up_same]
    exact Or.inl ⟨⟨v, hv, rfl⟩, rfl, rfl, rfl⟩
theorem nix_ok {kc u : Nat} (hk : kc < 3) (h : nix kc u ≠ 0) (e : Nat) : StepOK (nI kc) (-nI (nix kc u)) (nI 1) (nI u) e (e + 1) := by
  refine Or.inr (Or.inl ⟨rfl, rfl, ?_⟩)
  unfold nix at h ⊢
  rcases (show kc = 0 ∨ kc = 1 ∨ kc = 2 by omega) with rfl | rfl | rfl
  · rw [if_pos rfl] at h ⊢
    by_cases h1 : u = 110
    · subst h1; exact Or.inl ⟨rfl, Or.inl ⟨rfl, rfl⟩⟩
    by_cases h2 : u = 102
    · subst h2; exact Or.inl ⟨rfl, Or.inr (Or.inl ⟨rfl, rfl⟩)⟩
    by_cases h3 : u = 105
    · subst h3; exact Or.inl ⟨rfl, Or.inr (Or.inr ⟨rfl, rfl⟩)⟩
    rw [if_neg h1, if_neg h2, if_neg h3] at h
    exact absurd rfl h
  · rw [if_neg (by omega), if_pos rfl] at h ⊢
    by_cases h1 : u = 110
    · subst h1; exact Or.inr (Or.inl ⟨rfl, Or.inl ⟨rfl, rfl⟩⟩)
    by_cases h2 : u = 121
    · subst h2; exact Or.inr (Or.inl ⟨rfl, Or.inr ⟨rfl, rfl⟩⟩)
    rw [if_neg h1, if_neg h2] at h
    exact absurd rfl h
  · rw [if_neg (by omega), if_neg (by omega)] at h ⊢
    by_cases h1 : u = 99
    · subst h1; exact Or.inr (Or.inr ⟨rfl, Or.inl ⟨rfl, rfl⟩⟩)
    by_cases h2 : u = 100
    · subst h2; exact Or.inr (Or.inr ⟨rfl, Or.inr (Or.inl ⟨rfl, rfl⟩)⟩)
    by_cases h3 : u = 97
    · subst h3; exact Or.inr (Or.inr ⟨rfl, Or.inr (Or.inr ⟨rfl, rfl⟩)⟩)
    rw [if_neg h1, if_neg h2, if_neg h3] at h
    exact absurd rfl h
theorem nix_le (kc u : Nat) : nix kc u ≤ 3 := by
  unfold nix
  repeat' split
  all_goals omega
theorem pc_name {n L kc km : Nat} {B : Nat → Nat} {M N : Mem} {a b s d lv op no : Nat} (hL : L + 192 ≤ 3510) (hP : PSt n L kc B M N a b s d lv op no) (ho : op ≤ 8) (hno : no ≤ 8) (hkc : (kc = 0 ∧ km < 12) ∨ (kc = 1 ∧ km = 12) ∨ (kc = 2 ∧ km = 13)) (h2 : s = 1) (h4 : b = a + 1) (hnx : nix kc (B a) ≠ 0)
    (grl : Nat → Int32 → Int32 → Int32 → Mem → Option (Int32 × Mem)) (grp : Nat → Int32 → Int32 → Mem → Option (Int32 × Mem)) (q1 q2 q3 q4 q5 q6 : Nat → Int32 → Mem → Option (Int32 × Mem)) : Out n L kc B op no M N a d (F_X7_readPiece grl grp 61 (nI op) (nI no) M) (F_X10_part0 q1 q2 q3 q4 q5 q6 0 (nI km) N) := by
  obtain ⟨hT, c2, c3, c7, m21, m22, hd, c5, m23, m19, m20⟩ := hP
  have hn := hT.n
  have hx : (97 ≤ B a ∧ B a ≤ 122) ∧ N 0 16 = nI 1 ∧ N 0 18 = nI (B a) := by
    obtain ⟨_, _, _, _, _, _, _, _, _, hc⟩ := hT
    rcases hc with ⟨c, _⟩ | ⟨c, _⟩ | ⟨c, _, g1, g2, g3⟩ | ⟨c, _⟩ | ⟨c, c', _⟩ | ⟨c, _⟩
    · omega
    · omega
    · rw [if_pos h4] at g3
      exact ⟨g1 a (by omega) (by omega), g2, g3⟩
    · omega
    · omega
    · omega
  obtain ⟨hl, m16, m18⟩ := hx
  have hi3 := nix_le kc (B a)
  have nok := nix_ok (kc := kc) (u := B a) (by omega) hnx
  have hnm := c_name hT c3 (by omega)
  rw [if_pos ⟨h2, h4⟩] at hnm
  have mn := m_name (kc := kc) (km := km) (u := B a) N hkc (by omega)
  generalize B a = u at hl m18 nok hnm mn hnx hi3
  generalize nix kc u = i at nok hnm hnx hi3 mn
  have hxi : ¬ (nI i - nI 1 < 0) ∧ (-1) - (nI i - nI 1) = -nI i := by
    rcases (show i = 1 ∨ i = 2 ∨ i = 3 by omega) with rfl | rfl | rfl <;> decide
  have e1 := c_put (-nI i) c7 (show d < 96 by omega)
  have e2 := m_step 1 (nI u) m21 m22 hL (show d < 96 by omega)
  have cf : ∀ f, f ≠ 7 → f ≠ 5 → up (up (up M 63 d (-nI i)) 61 7 (nI (d + 1))) 61 5 (nI (lv + 1)) 61 f = M 61 f := fun f h1 h2 => by rw [up_k _ _ _ _ _ h2, up_k _ _ _ _ _ h1, up_ne (by decide)]
  have mf : ∀ f, f ≠ 21 → f ≠ 23 → up (up (up (up N 1 (L + 2 * d) 1) 1 (L + 2 * d + 1) (nI u)) 0 21 (nI (d + 1))) 0 23 (nI (lv + 1)) 0 f = N 0 f := fun f h1 h2 => by rw [up_k _ _ _ _ _ h2, up_k _ _ _ _ _ h1, up_ne (by decide), up_ne (by decide)]
  have hT1 : TK n B (up (up (up M 63 d (-nI i)) 61 7 (nI (d + 1))) 61 5 (nI (lv + 1))) (up (up (up (up N 1 (L + 2 * d) 1) 1 (L + 2 * d + 1) (nI u)) 0 21 (nI (d + 1))) 0 23 (nI (lv + 1))) a b s := hT.cg (cf 1 (by decide) (by decide)) (cf 8 (by decide) (by decide)) (cf 9 (by decide) (by decide)) (cf 10 (by decide) (by decide)) (by rw [up_ne (by decide), up_ne (by decide), up_ne (by decide)]) (fun f _ _ => mf f (by omega) (by omega)) (by rw [up_ne (by decide), up_ne (by decide), up_ne (by decide), up_ne (by decide)])
  obtain ⟨r, M', r', N', a', b', s', f1, f2, f, g, hT', ha⟩ := tk_fwd hT1 (Or.inl h2)
  rw [c_leaf hT ho hno grl grp (by omega) (by omega)]
  have cl : f_X7_readLeaf 61 M = some (nI 0, M') := by
    unfold f_X7_readLeaf
    rw [hnm, bd_e, c_isNum hT, bd_e, jn_e, if_b2, if_neg (by omega), if_neg hxi.1, hxi.2, e1, bd_e]
    dsimp only
    rw [vv_e, mm_e, up_k _ _ _ _ _ (by decide), up_ne (by decide), c5, show nI lv + 1 = nI (lv + 1) from nI_add lv 1, f1, bd_e]
    rfl
  have ml : F_X10_part0 q1 q2 q3 q4 q5 q6 0 (nI km) N = some (nI 1, N') := by
    unfold F_X10_part0
    rw [vv_e, m16, if_neg (show ¬ nI 1 = 2 by decide), vv_e, jn_e, if_pos (show nI 1 = 1 from rfl), vv_e, m18, if_neg (show ¬ nI u = 0 from fun q => absurd ((nI_eq (a := u) (b := 0) (by omega) (by decide)).mp q) (by omega)), vv_e, mn, bd_e, if_b2, if_pos hnx, vv_e, m18, e2, bd_e, vv_e, mm_e, up_k _ _ _ _ _ (by decide), up_ne (by decide), up_ne (by decide), m23, show nI lv + 1 = nI (lv + 1) from nI_add lv 1, f2, bd_e]
    rfl
  rw [cl, bd_e, ml]
  have FCt : FC M M' d := (show FC M (up (up (up M 63 d (-nI i)) 61 7 (nI (d + 1))) 61 5 (nI (lv + 1))) d from ⟨fun q h1 h2 => by rw [up_ne h1, up_ne h1, up_ne h2], cf 1 (by decide) (by decide), cf 3 (by decide) (by decide), cf 4 (by decide) (by decide), fun k hk => by rw [up_ne (by decide), up_ne (by decide), up_k _ _ _ _ _ (by omega)]⟩).t (f.fc d) (Nat.le_refl _)
  have FMt : FM L N N' d := (show FM L N (up (up (up (up N 1 (L + 2 * d) 1) 1 (L + 2 * d + 1) (nI u)) 0 21 (nI (d + 1))) 0 23 (nI (lv + 1))) d from ⟨fun q h1 h2 => by rw [up_ne h1, up_ne h1, up_ne h2, up_ne h2], fun f hf => mf f (by omega) (by omega), fun j hj => by rw [up_ne (by decide), up_ne (by decide), up_k _ _ _ _ _ (by omega), up_k _ _ _ _ _ (by omega)]⟩).t (g.fm L d) (Nat.le_refl _)
  refine Out.g (lv' := lv + 1) (d' := d + 1) ⟨⟨hT', ?_, ?_, ?_, ?_, ?_, by omega, ?_, ?_, ?_, ?_⟩, FCt, FMt, Nat.lt_succ_self d, by omega, Sg.one (fun e => ?_)⟩
  · rw [f.2 2 (by decide) (by decide) (by decide), cf 2 (by decide) (by decide)]; exact c2
  · rw [f.2 3 (by decide) (by decide) (by decide), cf 3 (by decide) (by decide)]; exact c3
  · rw [f.2 7 (by decide) (by decide) (by decide), up_k _ _ _ _ _ (by decide), up_same]
  · rw [g.2 21 (by decide), up_k _ _ _ _ _ (by decide), up_same]
  · rw [g.2 22 (by decide), mf 22 (by decide) (by decide)]; exact m22
  · rw [f.2 5 (by decide) (by decide) (by decide), up_same]
  · rw [g.2 23 (by decide), up_same]
  · rw [g.2 19 (by decide), mf 19 (by decide) (by decide)]; exact m19
  · rw [g.2 20 (by decide), mf 20 (by decide) (by decide)]; exact m20
  · rw [f.1 63 (by decide), g.1 1 (by decide), up_ne (by decide), up_ne (by decide), up_same, up_ne (by decide), up_ne (by decide), up_k _ _ _ _ _ (by omega), up_same, up_same]
    exact nok e
theorem PSt.bad {n L kc : Nat} {B : Nat → Nat} {M N : Mem} {a b s d lv op no : Nat} (hP : PSt n L kc B M N a b s d lv op no) : BD L M N (up M 61 2 (nI a)) N := by
  obtain ⟨hT, c2, c3, c7, m21, m22, hd, c5, m23, m19, m20⟩ := hP
  have hn := hT.n
  refine ⟨a, d, by omega, by omega, up_same _ _ _ _, hT.2.2.2.2.2.1, (up_k _ _ _ _ _ (by decide)).trans c7, ⟨fun q h1 _ => up_ne h1, up_k _ _ _ _ _ (by decide), up_k _ _ _ _ _ (by decide), up_k _ _ _ _ _ (by decide), fun k hk => absurd hk (by omega)⟩, FM.r⟩
theorem pc_bad {n L kc km : Nat} {B : Nat → Nat} {M N : Mem} {a b s d lv op no : Nat} (hP : PSt n L kc B M N a b s d lv op no) (ho : op ≤ 8) (hno : no ≤ 8) (hkc : (kc = 0 ∧ km < 12) ∨ (kc = 1 ∧ km = 12) ∨ (kc = 2 ∧ km = 13)) (h2 : ¬ (s = 2 ∧ b ≤ a + 4)) (h1 : ¬ (s = 1 ∧ b = a + 1 ∧ nix kc (B a) ≠ 0)) (hx : ¬ (s = 3 ∧ B a = 33 ∧ no < 8)) (hy : ¬ (s = 3 ∧ B a = 40 ∧ op < 8))
    (grl : Nat → Int32 → Int32 → Int32 → Mem → Option (Int32 × Mem)) (grp : Nat → Int32 → Int32 → Mem → Option (Int32 × Mem)) (q1 q2 q3 q4 q5 q6 : Nat → Int32 → Mem → Option (Int32 × Mem)) : Out n L kc B op no M N a d (F_X7_readPiece grl grp 61 (nI op) (nI no) M) (F_X10_part0 q1 q2 q3 q4 q5 q6 0 (nI km) N) := by
  have hBD := hP.bad
  obtain ⟨hT, c2, c3, c7, m21, m22, hd, c5, m23, m19, m20⟩ := hP
  have hn := hT.n
  rw [c_leaf hT ho hno grl grp hx hy]
  have cl : f_X7_readLeaf 61 M = some (nI 0, up M 61 2 (nI a)) := by
    unfold f_X7_readLeaf
    rw [c_name hT c3 (by omega), bd_e, c_isNum hT, bd_e, jn_e, if_b2, if_neg h2, if_pos ?_, vv_e, mm_e, hT.2.2.1]
    · rfl
    · by_cases e : s = 1 ∧ b = a + 1
      · rw [if_pos e, show nix kc (B a) = 0 by
          by_cases z : nix kc (B a) = 0
          · exact z
          · exact absurd ⟨e.1, e.2, z⟩ h1]
        decide
      · rw [if_neg e]
        decide
  have ml : F_X10_part0 q1 q2 q3 q4 q5 q6 0 (nI km) N = some (nI 0, N) := by
    have ns := m_nosign (km := km) hT m19 m20 ho hno (x17 := fun M => vv (M 0 20) fun x15 => mm (up M 0 20 (x15 + 1)) fun M => bd (f_X10_goesOn 0 M) fun _ M => bd (q6 0 (nI km) M) fun x17 M => if x17 = 0 then some (0, M) else vv (M 0 20) fun x18 => mm (up M 0 20 (x18 - 1)) fun M => bd (f_X10_step 0 2 33 M) fun _ M => some (1, M)) (x10 := fun M => vv (M 0 19) fun x8 => mm (up M 0 19 (x8 + 1)) fun M => bd (f_X10_goesOn 0 M) fun _ M => bd (q1 0 (nI km) M) fun x10 M => if x10 = 0 then some (0, M) else bd (f_X10_isSign 0 41 M) fun x11 M => if x11 = 0 then some (0, M) else vv (M 0 19) fun x12 => mm (up M 0 19 (x12 - 1)) fun M => bd (f_X10_goesOn 0 M) fun _ M => some (1, M)) hx hy
    have key : ∀ t, N 0 16 = nI t → t < 5 → t ≠ 2 → t ≠ 1 → F_X10_part0 q1 q2 q3 q4 q5 q6 0 (nI km) N = some (nI 0, N) := by
      intro t ht t5 t2 t1
      unfold F_X10_part0
      rw [vv_e, ht, if_neg (show ¬ nI t = 2 from fun q => absurd ((nI_eq (a := t) (b := 2) (by omega) (by decide)).mp q) (by omega)), vv_e, jn_e, if_neg (show ¬ nI t = 1 from fun q => absurd ((nI_eq (a := t) (b := 1) (by omega) (by decide)).mp q) (by omega))]
      exact ns
    obtain ⟨_, _, _, _, _, _, _, _, _, hc⟩ := id hT
    rcases hc with ⟨c, c', g⟩ | ⟨c, _, _, g, _⟩ | ⟨c, _, g1, g2, g3⟩ | ⟨c, _, _, _, g, _⟩ | ⟨c, c', g⟩ | ⟨c, _, g⟩
    · exact key 0 g (by omega) (by omega) (by omega)
    · exact key 3 g (by omega) (by omega) (by omega)
    · unfold F_X10_part0
      rw [vv_e, g2, if_neg (show ¬ nI 1 = 2 by decide), vv_e, jn_e, if_pos (show nI 1 = 1 from rfl), vv_e, g3]
      by_cases e : b = a + 1
      · have hb := g1 a (by omega) (by omega)
        rw [if_pos e, if_neg (show ¬ nI (B a) = 0 from fun q => absurd ((nI_eq (a := B a) (b := 0) (by omega) (by decide)).mp q) (by omega)), vv_e, m_name N hkc (by omega), bd_e, if_b2, if_neg (fun q => h1 ⟨c, e, q⟩)]
        exact ns
      · rw [if_neg e, if_pos (show nI 0 = 0 from rfl)]
        exact ns
    · omega
    · exact key 4 g (by omega) (by omega) (by omega)
    · exact key 4 g (by omega) (by omega) (by omega)
  rw [cl, bd_e, ml]
  exact Out.b hBD
