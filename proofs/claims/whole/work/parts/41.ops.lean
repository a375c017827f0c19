/-! the text that counts -/
def lastT (P : Nat → Prop) [DecidablePred P] : Nat → Option Nat
  | 0 => none
  | n + 1 => if P n then some n else lastT P n
def orN (o : Option Nat) : Int32 := match o with
  | some t => nI t
  | none => (-1000000005)
def orM (o : Option Nat) : Int32 := match o with
  | some t => nI t
  | none => (-1)
theorem orN_n : orN none = (-1000000005) := rfl
theorem orN_s (t : Nat) : orN (some t) = nI t := rfl
theorem neg_m1 : nI 0 + (-1) < 0 := by decide
theorem lastT_congr {P Q : Nat → Prop} [DecidablePred P] [DecidablePred Q] : ∀ n, (∀ t, t < n → (P t ↔ Q t)) → lastT P n = lastT Q n
  | 0, _ => rfl
  | n + 1, h => by
    rw [lastT, lastT, lastT_congr n (fun t ht => h t (by omega))]
    by_cases hp : P n
    · rw [if_pos hp, if_pos ((h n (by omega)).mp hp)]
    · rw [if_neg hp, if_neg (fun q => hp ((h n (by omega)).mpr q))]
theorem lastT_lt {P : Nat → Prop} [DecidablePred P] : ∀ n t, lastT P n = some t → t < n ∧ P t
  | 0, t, h => by cases h
  | n + 1, t, h => by
    rw [lastT] at h
    by_cases hp : P n
    · rw [if_pos hp] at h
      cases h
      exact ⟨by omega, hp⟩
    · rw [if_neg hp] at h
      have := lastT_lt n t h
      exact ⟨by omega, this.2⟩
theorem m1e : ∀ n, nI n - 1 = nI n + (-1)
  | 0 => rfl
  | n + 1 => by rw [nI_pred, pk_m1]
theorem it1_f {A1 β : Type} {B : (A1 → Mem → Option β) → A1 → Mem → Option β} {n : Nat} {x1 : A1} {M : Mem} {z : Option β} (h : ∀ F, F = B → it1 F n x1 M = z) : it1 B n x1 M = z := h B rfl
theorem it2_f {A1 A2 β : Type} {B : (A1 → A2 → Mem → Option β) → A1 → A2 → Mem → Option β} {n : Nat} {x1 : A1} {x2 : A2} {M : Mem} {z : Option β} (h : ∀ F, F = B → it2 F n x1 x2 M = z) : it2 B n x1 x2 M = z := h B rfl
theorem x_latest (o nX : Nat) (k T : Int32) (M : Mem) (h : M o 0 = nI nX) (hn : nX ≤ 14) : f_X8_latest o k T M = some (orN (lastT (fun t => M (grf G1 o 1) t = k ∧ (k = 0 → M (grf G1 o 2) t = T)) nX), M) := by
  unfold f_X8_latest
  rw [vv_d, vv_d, h, m1e]
  refine it1_f (fun F hF => ?_)
  have key : ∀ n j, j ≤ 14 → j < n → it1 F n (nI j + (-1)) M = some (orN (lastT (fun t => M (grf G1 o 1) t = k ∧ (k = 0 → M (grf G1 o 2) t = T)) j), M) := by
    intro n
    induction n with
    | zero => intro j h1 h2; omega
    | succ n ih =>
      intro j h1 h2
      rw [it1_succ]
      generalize it1 F n = rc at ih ⊢
      rw [hF]
      dsimp only
      cases j with
      | zero => rw [if_pos neg_m1, lastT, orN_n]
      | succ j =>
        rw [pk_m1, if_neg (show ¬ nI j < 0 from nI_pos (by omega)), vv_d, ld_n j rfl (by omega) (by decide), lastT]
        have ih2 := ih j (by omega) (by omega)
        by_cases hk : M (grf G1 o 1) j = k
        · rw [if_pos hk]
          by_cases h0 : k = 0
          · rw [if_pos h0, vv_d, ld_n j rfl (by omega) (by decide)]
            by_cases ht : M (grf G1 o 2) j = T
            · rw [if_pos ht, if_pos ⟨hk, fun _ => ht⟩, orN_s]
            · rw [if_neg ht, if_neg (fun q => ht (q.2 h0))]
              exact ih2
          · rw [if_neg h0, if_pos ⟨hk, fun q => absurd q h0⟩, orN_s]
        · rw [if_neg hk, if_neg (fun q => hk q.1)]
          exact ih2
  exact key fuel nX hn (by show nX < 5000; omega)
theorem tx0 (t : Nat) : 500 + 200 * nI t = nI (500 + 200 * t) := by
  rw [show (200 : Int32) * nI t = nI (200 * t) from pk_mul 200 t]
  exact nI_add 500 (200 * t)
theorem y_counts (nX : Nat) (k : Int32) (N : Mem) (h : N 1 2 = nI nX) (hn : nX ≤ 14) : f_X10_counts 0 k N = some (orM (lastT (fun t => N 1 (500 + 200 * t) = k) nX), N) := by
  unfold f_X10_counts f_X10_textAt
  simp only [vv_d, mm_d, jn_d, bd_d, bd_i, r2_0_0, r2_0_1, r2_0_2, r2_0_4, r2_0_5, r2_0_6, r2_0_7, r2_0_8, r2_0_9, r2_0_10, r2_0_11, r2_0_12, r2_0_24, r2_0_25, r2_0_28, r2_0_29, r2_0_30, r2_0_34, r2_0_35, r2_0_36, r2_0_38, ld_2]
  generalize hB : (fun (rc3 : Int32 → Int32 → Mem → Option (Int32 × Mem)) (v1 v2 : Int32) (M : Mem) => if v2 < M 1 2 then ld M 1 (500 + 200 * v2) 3510 fun x8 => if x8 = k then rc3 v2 (v2 + 1) M else rc3 v1 (v2 + 1) M else some (v1, M)) = B
  have key : ∀ n j, j ≤ nX → nX < j + n → it2 B n (orM (lastT (fun t => N 1 (500 + 200 * t) = k) j)) (nI j) N = some (orM (lastT (fun t => N 1 (500 + 200 * t) = k) nX), N) := by
    intro n
    induction n with
    | zero => intro j h1 h2; omega
    | succ n ih =>
      intro j h1 h2
      rw [it2_succ, ← hB]
      simp only [h]
      by_cases hj : j = nX
      · subst hj
        rw [if_neg (show ¬ nI j < nI j from nI_nlt (Nat.le_refl _) (by omega))]
      · rw [if_pos (show nI j < nI nX from nI_lt (by omega) (by omega)), ld_n (500 + 200 * j) (tx0 j) (by omega) (by decide), hB]
        have ih2 := ih (j + 1) (by omega) (by omega)
        rw [lastT] at ih2
        by_cases hk : N 1 (500 + 200 * j) = k
        · rw [if_pos hk] at ih2 ⊢
          rw [nI_1]
          exact ih2
        · rw [if_neg hk] at ih2 ⊢
          rw [nI_1]
          exact ih2
  exact key fuel 0 (by omega) (by show nX < 0 + 5000; omega)
theorem y_orNone (o : Option Nat) (h : ∀ t, o = some t → t < 2 ^ 31) (M : Mem) : f_X10_orNone (orM o) M = some (orN o, M) := by
  unfold f_X10_orNone
  cases o with
  | none => rfl
  | some t =>
    show (if nI t < 0 then _ else _) = _
    rw [if_neg (nI_pos (h t rfl))]
    rfl
/-- the two find the same text: key 0 of a table, 1, 2 -/
theorem lat_eq {nX : Nat} {cn : Int32} {key tbl lv len sp g : Nat → Int32} (h : RX nX cn key tbl lv len sp g) (k T c : Int32) (hk : (k = 0 ∧ Rg T 12 ∧ c = T) ∨ (k = 1 ∧ c = 12) ∨ (k = 2 ∧ c = 13)) : lastT (fun t => key t = k ∧ (k = 0 → tbl t = T)) nX = lastT (fun t => g (500 + 200 * t) = c) nX := by
  apply lastT_congr
  intro t ht
  obtain ⟨a1, -⟩ := h.2.2.2 t ht
  rcases hk with ⟨rfl, ⟨T', hT', rfl⟩, rfl⟩ | ⟨rfl, rfl⟩ | ⟨rfl, rfl⟩
  · rcases a1 with ⟨b1, b2, b3⟩ | ⟨b1, b2, b3⟩ | ⟨b1, b2, b3⟩
    · rw [b1, b3]
      exact ⟨fun q => q.2 rfl, fun q => ⟨rfl, fun _ => q⟩⟩
    · rw [b1, b3]
      exact ⟨fun q => absurd q.1 (by decide), fun q => absurd ((nI_eq (a := 12) (b := T') (by decide) (by omega)).mp q) (by omega)⟩
    · rw [b1, b3]
      exact ⟨fun q => absurd q.1 (by decide), fun q => absurd ((nI_eq (a := 13) (b := T') (by decide) (by omega)).mp q) (by omega)⟩
  · rcases a1 with ⟨b1, ⟨T', hT', b2⟩, b3⟩ | ⟨b1, b2, b3⟩ | ⟨b1, b2, b3⟩
    · rw [b1, b3, b2]
      exact ⟨fun q => absurd q.1 (by decide), fun q => absurd ((nI_eq (a := T') (b := 12) (by omega) (by decide)).mp q) (by omega)⟩
    · rw [b1, b3]
      exact ⟨fun _ => rfl, fun _ => ⟨rfl, fun q => absurd q (by decide)⟩⟩
    · rw [b1, b3]
      exact ⟨fun q => absurd q.1 (by decide), fun q => absurd q (by decide)⟩
  · rcases a1 with ⟨b1, ⟨T', hT', b2⟩, b3⟩ | ⟨b1, b2, b3⟩ | ⟨b1, b2, b3⟩
    · rw [b1, b3, b2]
      exact ⟨fun q => absurd q.1 (by decide), fun q => absurd ((nI_eq (a := T') (b := 13) (by omega) (by decide)).mp q) (by omega)⟩
    · rw [b1, b3]
      exact ⟨fun q => absurd q.1 (by decide), fun q => absurd q (by decide)⟩
    · rw [b1, b3]
      exact ⟨fun _ => rfl, fun _ => ⟨rfl, fun q => absurd q (by decide)⟩⟩
