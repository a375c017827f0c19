def ole (x y : Option Nat) : Prop := match x, y with
  | _, none => True
  | none, some _ => False
  | some a, some b => a ≤ b
theorem ole.rf (x : Option Nat) : ole x x := by
  cases x with
  | none => trivial
  | some a => exact Nat.le_refl a
theorem ole.tr {x y z : Option Nat} (h : ole x y) (g : ole y z) : ole x z := by
  cases z with
  | none => cases x <;> trivial
  | some c =>
    cases y with
    | none => exact g.elim
    | some b =>
      cases x with
      | none => exact h.elim
      | some a => exact Nat.le_trans h g
theorem ole.nn {x : Option Nat} : ole x none := by cases x <;> trivial
/-- what one road does at its end -/
theorem rlx_cases (w : Nat → Nat → Nat) (a b : Nat) (d : Nat → Option Nat) : (rlx w a b d b = d b ∧ ∀ x, d a = some x → 0 < w a b → ole (d b) (some (x + w a b))) ∨ ∃ x, d a = some x ∧ 0 < w a b ∧ rlx w a b d b = some (x + w a b) ∧ ole (some (x + w a b)) (d b) := by
  unfold rlx
  rw [if_pos rfl]
  by_cases hp : 0 < w a b
  · rw [if_pos hp]
    cases ha : d a with
    | none =>
      left
      refine ⟨?_, fun x hx => by cases hx⟩
      cases d b <;> rfl
    | some x =>
      cases hb : d b with
      | none => exact Or.inr ⟨x, rfl, hp, rfl, trivial⟩
      | some y =>
        dsimp only
        by_cases q : x + w a b < y
        · rw [if_pos q]
          exact Or.inr ⟨x, rfl, hp, rfl, Nat.le_of_lt q⟩
        · rw [if_neg q]
          refine Or.inl ⟨rfl, fun x' hx' _ => ?_⟩
          cases hx'
          exact Nat.le_of_not_lt q
  · rw [if_neg hp]
    exact Or.inl ⟨rfl, fun _ _ q => absurd q hp⟩
theorem rlx_le (w : Nat → Nat → Nat) (a b : Nat) (d : Nat → Option Nat) (c : Nat) : ole (rlx w a b d c) (d c) := by
  by_cases hc : c = b
  · subst hc
    rcases rlx_cases w a c d with ⟨e, -⟩ | ⟨x, -, -, e, h⟩
    · rw [e]; exact ole.rf _
    · rw [e]; exact h
  · rw [rlx_o hc]; exact ole.rf _
theorem rlx_done (w : Nat → Nat → Nat) (a b : Nat) (d : Nat → Option Nat) {x : Nat} (hx : d a = some x) (hp : 0 < w a b) : ole (rlx w a b d b) (some (x + w a b)) := by
  rcases rlx_cases w a b d with ⟨e, h⟩ | ⟨x', h1, -, e, h⟩
  · rw [e]; exact h x hx hp
  · rw [hx] at h1
    cases h1
    rw [e]; exact ole.rf _
/-- S is settled -/
def PS (w : Nat → Nat → Nat) (S : Nat → Bool) (F : Nat → Option Nat) (θ : Option Nat) (d : Nat → Option Nat) : Prop := (∀ v, v < 6 → S v = true → d v = F v) ∧ (∀ v, v < 6 → S v = true → ole (F v) θ) ∧ (∀ u, u < 6 → S u = false → ole θ (d u)) ∧ ∀ a b x, a < 6 → b < 6 → S a = true → F a = some x → 0 < w a b → ole (d b) (some (x + w a b)) ∨ F a = θ
theorem ole_add {x y : Option Nat} {a c : Nat} (h : ole x y) (e : y = some a) : ole x (some (a + c)) := by
  subst e
  cases x with
  | none => exact h.elim
  | some b => exact Nat.le_trans h (Nat.le_add_right _ _)
theorem PS.rlx {w : Nat → Nat → Nat} {S : Nat → Bool} {F : Nat → Option Nat} {θ : Option Nat} {d : Nat → Option Nat} (h : PS w S F θ d) {a b : Nat} (ha : a < 6) (hb : b < 6) : PS w S F θ (rlx w a b d) := by
  obtain ⟨h1, h2, h3, h4⟩ := h
  refine ⟨fun v hv hS => ?_, h2, fun u hu hS => ?_, fun a' b' x ha' hb' hS hx hp => ?_⟩
  · by_cases hvb : v = b
    · subst hvb
      rcases rlx_cases w a v d with ⟨e, -⟩ | ⟨x, e1, e2, e3, e4⟩
      · rw [e]; exact h1 v hv hS
      · -- nothing smaller can come into S
        have hF := h1 v hv hS
        have : ole (d v) (some (x + w a v)) := by
          cases hSa : S a with
          | true =>
            have hFa : F a = some x := by rw [← h1 a ha hSa]; exact e1
            rcases h4 a v x ha hv hSa hFa e2 with q | q
            · exact q
            · rw [hF]
              exact ole_add (h2 v hv hS) (by rw [← q]; exact hFa)
          | false =>
            have q := h3 a ha hSa
            rw [e1] at q
            rw [hF]
            exact ole_add ((h2 v hv hS).tr q) rfl
        rw [e3, ← hF]
        cases hd : d v with
        | none => rw [hd] at this; exact this.elim
        | some y =>
          rw [hd] at this e4
          have t1 : y ≤ x + w a v := this
          have t2 : x + w a v ≤ y := e4
          rw [show x + w a v = y by omega]
    · rw [rlx_o hvb]; exact h1 v hv hS
  · by_cases hub : u = b
    · subst hub
      rcases rlx_cases w a u d with ⟨e, -⟩ | ⟨x, e1, e2, e3, e4⟩
      · rw [e]; exact h3 u hu hS
      · rw [e3]
        cases hSa : S a with
        | true =>
          have hFa : F a = some x := by rw [← h1 a ha hSa]; exact e1
          rcases h4 a u x ha hu hSa hFa e2 with q | q
          · exact (h3 u hu hS).tr q
          · exact ole_add (ole.rf θ) (by rw [← q]; exact hFa)
        | false =>
          have q := h3 a ha hSa
          rw [e1] at q
          exact ole_add q rfl
    · rw [rlx_o hub]; exact h3 u hu hS
  · rcases h4 a' b' x ha' hb' hS hx hp with q | q
    · exact Or.inl ((rlx_le w a b d b').tr q)
    · exact Or.inr q
theorem PS.row {w : Nat → Nat → Nat} {S : Nat → Bool} {F : Nat → Option Nat} {θ : Option Nat} {d : Nat → Option Nat} {a : Nat} (h : PS w S F θ d) (ha : a < 6) : ∀ n, n ≤ 6 → PS w S F θ (rowN w a d n) ∧ (∀ c, ole (rowN w a d n c) (d c)) ∧ (S a = true → ∀ b x, b < n → F a = some x → 0 < w a b → ole (rowN w a d n b) (some (x + w a b)))
  | 0, _ => ⟨h, fun c => ole.rf _, fun _ b x hb => absurd hb (Nat.not_lt_zero b)⟩
  | n + 1, hn => by
    obtain ⟨i1, i2, i3⟩ := PS.row h ha n (by omega)
    rw [rowN]
    refine ⟨i1.rlx ha (by omega), fun c => (rlx_le _ _ _ _ _).tr (i2 c), fun hS b x hb hx hp => ?_⟩
    by_cases e : b = n
    · subst e
      exact rlx_done _ _ _ _ (by rw [i1.1 a ha hS]; exact hx) hp
    · rw [rlx_o e]
      exact i3 hS b x (by omega) hx hp
theorem PS.rnd {w : Nat → Nat → Nat} {S : Nat → Bool} {F : Nat → Option Nat} {θ : Option Nat} {d : Nat → Option Nat} (h : PS w S F θ d) : ∀ n, n ≤ 6 → PS w S F θ (rndN w d n) ∧ ∀ a b x, a < n → b < 6 → S a = true → F a = some x → 0 < w a b → ole (rndN w d n b) (some (x + w a b))
  | 0, _ => ⟨h, fun a b x ha => absurd ha (Nat.not_lt_zero a)⟩
  | n + 1, hn => by
    obtain ⟨i1, i2⟩ := PS.rnd h n (by omega)
    obtain ⟨j1, j2, j3⟩ := i1.row (a := n) (by omega) 6 (Nat.le_refl _)
    rw [rndN]
    refine ⟨j1, fun a b x ha hb hS hx hp => ?_⟩
    by_cases e : a = n
    · subst e
      exact j3 hS b x hb hx hp
    · exact (j2 b).tr (i2 a b x (by omega) hb hS hx hp)
def cntS (S : Nat → Bool) : Nat → Nat
  | 0 => 0
  | n + 1 => cntS S n + (if S n = true then 1 else 0)
theorem cntS_le (S : Nat → Bool) : ∀ n, cntS S n ≤ n
  | 0 => Nat.le_refl _
  | n + 1 => by
    rw [cntS]
    have := cntS_le S n
    split <;> omega
theorem cntS_all (S : Nat → Bool) : ∀ n, n ≤ cntS S n → ∀ v, v < n → S v = true
  | 0, _, v, hv => absurd hv (Nat.not_lt_zero v)
  | n + 1, h, v, hv => by
    rw [cntS] at h
    have := cntS_le S n
    by_cases q : S n = true
    · rw [if_pos q] at h
      by_cases e : v = n
      · rw [e]; exact q
      · exact cntS_all S n (by omega) v (by omega)
    · rw [if_neg q] at h
      omega
theorem cntS_ins (S : Nat → Bool) (u : Nat) (hu : S u = false) : ∀ n, cntS (fun v => if v = u then true else S v) n = cntS S n + (if u < n then 1 else 0)
  | 0 => rfl
  | n + 1 => by
    rw [cntS, cntS, cntS_ins S u hu n]
    by_cases e : n = u
    · subst e
      rw [if_pos (if_pos rfl), if_neg (Nat.lt_irrefl _), if_pos (Nat.lt_succ_self _), hu]
      rfl
    · rw [if_neg e]
      by_cases q : u < n
      · rw [if_pos q, if_pos (show u < n + 1 by omega)]; omega
      · rw [if_neg q, if_neg (show ¬ u < n + 1 by omega)]; omega
theorem min_out (S : Nat → Bool) (d : Nat → Option Nat) : ∀ n, (∃ u, u < n ∧ S u = false) → ∃ u, u < n ∧ S u = false ∧ ∀ v, v < n → S v = false → ole (d u) (d v)
  | 0, ⟨u, hu, _⟩ => absurd hu (Nat.not_lt_zero u)
  | n + 1, h => by
    by_cases hex : ∃ u, u < n ∧ S u = false
    · obtain ⟨u, h1, h2, h3⟩ := min_out S d n hex
      by_cases hn : S n = false
      · have tot : ole (d u) (d n) ∨ ole (d n) (d u) := by
          cases d u with
          | none => exact Or.inr ole.nn
          | some a =>
            cases d n with
            | none => exact Or.inl trivial
            | some b => exact Nat.le_total a b
        rcases tot with q | q
        · exact ⟨u, by omega, h2, fun v hv hS => by
            by_cases e : v = n
            · rw [e]; exact q
            · exact h3 v (by omega) hS⟩
        · exact ⟨n, by omega, hn, fun v hv hS => by
            by_cases e : v = n
            · rw [e]; exact ole.rf _
            · exact q.tr (h3 v (by omega) hS)⟩
      · exact ⟨u, by omega, h2, fun v hv hS => by
          by_cases e : v = n
          · rw [e] at hS; exact absurd hS hn
          · exact h3 v (by omega) hS⟩
    · obtain ⟨u, hu, hS⟩ := h
      have : u = n := by
        rcases Nat.lt_or_ge u n with q | q
        · exact absurd ⟨u, q, hS⟩ hex
        · omega
      subst this
      exact ⟨u, hu, hS, fun v hv hSv => by
        by_cases e : v = u
        · rw [e]; exact ole.rf _
        · exact absurd ⟨v, by omega, hSv⟩ hex⟩
/-- after k rounds k + 1 places are settled -/
theorem settled {w : Nat → Nat → Nat} {s : Nat} (hs : s < 6) : ∀ k, k ≤ 5 → ∃ S F θ, PS w S F θ (allN w s k) ∧ k + 1 ≤ cntS S 6
  | 0, _ => by
    refine ⟨fun v => if v = s then true else false, fun _ => some 0, some 0, ⟨fun v hv hS => ?_, fun v hv hS => ole.rf _, fun u hu hS => ?_, fun a b x ha hb hS hx hp => Or.inr rfl⟩, ?_⟩
    · unfold allN
      by_cases e : v = s
      · rw [if_pos e]
      · dsimp only at hS; rw [if_neg e] at hS; cases hS
    · unfold allN
      by_cases e : u = s
      · dsimp only at hS; rw [if_pos e] at hS; cases hS
      · rw [if_neg e]; trivial
    · have := cntS_ins (fun _ => false) s rfl 6
      rw [if_pos hs] at this
      rw [this]
      omega
  | k + 1, hk => by
    obtain ⟨S, F, θ, hP, hc⟩ := settled (w := w) hs k (by omega)
    obtain ⟨i1, i2⟩ := hP.rnd 6 (Nat.le_refl _)
    by_cases hall : 6 ≤ cntS S 6
    · exact ⟨S, F, θ, i1, by omega⟩
    have hex : ∃ u, u < 6 ∧ S u = false := by
      apply Classical.byContradiction
      intro hno
      have : ∀ n, n ≤ 6 → cntS S n = n := by
        intro n
        induction n with
        | zero => intro _; rfl
        | succ n ih =>
          intro hn
          rw [cntS, ih (by omega)]
          cases q : S n with
          | true => rfl
          | false => exact absurd ⟨n, by omega, q⟩ hno
      have := this 6 (Nat.le_refl _)
      omega
    obtain ⟨u, u1, u2, u3⟩ := min_out S (allN w s (k + 1)) 6 hex
    refine ⟨fun v => if v = u then true else S v, allN w s (k + 1), allN w s (k + 1) u, ⟨fun v hv hS => rfl, fun v hv hS => ?_, fun v hv hS => ?_, fun a b x ha hb hS hx hp => ?_⟩, ?_⟩
    · by_cases e : v = u
      · rw [e]; exact ole.rf _
      · dsimp only at hS
        rw [if_neg e] at hS
        have e1 : allN w s (k + 1) v = F v := i1.1 v hv hS
        rw [e1]
        exact (i1.2.1 v hv hS).tr (i1.2.2.1 u u1 u2)
    · by_cases e : v = u
      · dsimp only at hS; rw [if_pos e] at hS; cases hS
      · dsimp only at hS
        rw [if_neg e] at hS
        exact u3 v hv hS
    · by_cases e : a = u
      · rw [e]; exact Or.inr rfl
      · dsimp only at hS
        rw [if_neg e] at hS
        have e1 : allN w s (k + 1) a = F a := i1.1 a ha hS
        rw [e1] at hx
        exact Or.inl (i2 a b x ha hb hS hx hp)
    · rw [cntS_ins S u u2, if_pos u1]
      omega
theorem stable {w : Nat → Nat → Nat} {s : Nat} (hs : s < 6) : (∀ c, c < 6 → allN w s 6 c = allN w s 5 c) ∧ ∀ a b x, a < 6 → b < 6 → allN w s 5 a = some x → 0 < w a b → ole (allN w s 5 b) (some (x + w a b)) := by
  obtain ⟨S, F, θ, hP, hc⟩ := settled (w := w) hs 5 (Nat.le_refl _)
  have hall := cntS_all S 6 hc
  obtain ⟨i1, i2⟩ := hP.rnd 6 (Nat.le_refl _)
  have e : ∀ c, c < 6 → allN w s 6 c = allN w s 5 c := fun c hcc => (i1.1 c hcc (hall c hcc)).trans (hP.1 c hcc (hall c hcc)).symm
  refine ⟨e, fun a b x ha hb hx hp => ?_⟩
  have := i2 a b x ha hb (hall a ha) (by rw [← hP.1 a ha (hall a ha)]; exact hx) hp
  rw [← e b hb]
  exact this
