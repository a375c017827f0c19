/-! what a program never writes: cell 15 -/
def Pr (q : Nat → Int32) (z : Option (Int32 × Mem)) : Prop := ∀ r N', z = some (r, N') → N' 15 = q
theorem pr_some {q : Nat → Int32} {M : Mem} {r : Int32} (h : M 15 = q) : Pr q (some (r, M)) := fun r' N' e => by
  rw [← (Prod.mk.inj (Option.some.inj e)).2]
  exact h
theorem pr_ld {q : Nat → Int32} {M : Mem} {a : Nat} {i : Int32} {n : Nat} {k : Int32 → Option (Int32 × Mem)} (h : ∀ x, Pr q (k x)) : Pr q (ld M a i n k) := by
  unfold ld
  split
  · intro r N' e; cases e
  · exact h _
theorem pr_st {q : Nat → Int32} {M : Mem} {a : Nat} {i : Int32} {n : Nat} {v : Int32} {k : Mem → Option (Int32 × Mem)} (ha : a ≠ 15) (hM : M 15 = q) (h : ∀ M', M' 15 = q → Pr q (k M')) : Pr q (st M a i n v k) := by
  unfold st
  split
  · intro r N' e; cases e
  · exact h _ (by rw [up_ne (Ne.symm ha)]; exact hM)
theorem pr_dv {q : Nat → Int32} {y : Int32} {x : Option (Int32 × Mem)} (h : Pr q x) : Pr q (dv y x) := by
  unfold dv
  split
  · intro r N' e; cases e
  · exact h
theorem pr_bd {q : Nat → Int32} {x : Option (Int32 × Mem)} {k : Int32 → Mem → Option (Int32 × Mem)} (hx : Pr q x) (h : ∀ r M', M' 15 = q → Pr q (k r M')) : Pr q (bd x k) := by
  cases x with
  | none => intro r N' e; cases e
  | some z => exact h z.1 z.2 (hx z.1 z.2 rfl)
theorem pr_if {q : Nat → Int32} {p : Prop} [Decidable p] {x y : Option (Int32 × Mem)} (hx : Pr q x) (hy : Pr q y) : Pr q (if p then x else y) := by
  split
  · exact hx
  · exact hy
theorem pr_2 {q : Nat → Int32} {A1 A2 : Type} {B : (A1 → A2 → Mem → Option (Int32 × Mem)) → A1 → A2 → Mem → Option (Int32 × Mem)} (h : ∀ rc : A1 → A2 → Mem → Option (Int32 × Mem), (∀ a b M, M 15 = q → Pr q (rc a b M)) → ∀ a b M, M 15 = q → Pr q (B rc a b M)) : ∀ f a b M, M 15 = q → Pr q (it2 B f a b M) := by
  intro f
  induction f with
  | zero => intro a b M _ r N' e; cases e
  | succ f ih => intro a b M hM; exact h _ ih a b M hM
theorem pr_4 {q : Nat → Int32} {A1 A2 A3 A4 : Type} {B : (A1 → A2 → A3 → A4 → Mem → Option (Int32 × Mem)) → A1 → A2 → A3 → A4 → Mem → Option (Int32 × Mem)} (h : ∀ rc : A1 → A2 → A3 → A4 → Mem → Option (Int32 × Mem), (∀ a b c d M, M 15 = q → Pr q (rc a b c d M)) → ∀ a b c d M, M 15 = q → Pr q (B rc a b c d M)) : ∀ f a b c d M, M 15 = q → Pr q (it4 B f a b c d M) := by
  intro f
  induction f with
  | zero => intro a b c d M _ r N' e; cases e
  | succ f ih => intro a b c d M hM; exact h _ ih a b c d M hM
theorem pr_vv {q : Nat → Int32} {α : Type} {e : α} {k : α → Option (Int32 × Mem)} (h : Pr q (k e)) : Pr q (vv e k) := by rw [vv_e]; exact h
theorem pr_jn {q : Nat → Int32} {α : Type} {e : α} {k : α → Option (Int32 × Mem)} (h : Pr q (k e)) : Pr q (jn e k) := by rw [jn_e]; exact h
theorem pr_s24 {q : Nat → Int32} {M : Mem} {i : Int32} {n : Nat} {v : Int32} {k : Mem → Option (Int32 × Mem)} (hM : M 15 = q) (h : ∀ M', M' 15 = q → Pr q (k M')) : Pr q (st M (grf G2 0 24) i n v k) := pr_st (by decide) hM h
theorem pr_s25 {q : Nat → Int32} {M : Mem} {i : Int32} {n : Nat} {v : Int32} {k : Mem → Option (Int32 × Mem)} (hM : M 15 = q) (h : ∀ M', M' 15 = q → Pr q (k M')) : Pr q (st M (grf G2 0 25) i n v k) := pr_st (by decide) hM h
theorem pr_textAt {q : Nat → Int32} {M : Mem} (a : Int32) (h : M 15 = q) : Pr q (f_X10_textAt 0 a M) := by
  unfold f_X10_textAt
  exact pr_some h
theorem pr_figureAt {q : Nat → Int32} {M : Mem} (a : Int32) (h : M 15 = q) : Pr q (f_X10_figureAt 0 a M) := by
  unfold f_X10_figureAt
  exact pr_some h
theorem pr_joined {q : Nat → Int32} {M : Mem} (a b c : Int32) (h : M 15 = q) : Pr q (f_X10_joined a b c M) := by
  unfold f_X10_joined
  repeat' first | with_reducible exact pr_some h | with_reducible refine pr_if ?_ ?_ | with_reducible refine pr_dv ?_
theorem pr_isIn {q : Nat → Int32} {M : Mem} (a b c : Int64) (h : M 15 = q) : Pr q (f_X10_isIn a b c M) := by
  unfold f_X10_isIn
  repeat' first | with_reducible exact pr_some h | with_reducible refine pr_if ?_ ?_
theorem pr_heldIn {q : Nat → Int32} {M : Mem} (a b : Int32) (h : M 15 = q) : Pr q (f_X10_heldIn a b M) := by
  unfold f_X10_heldIn
  repeat' first | with_reducible exact pr_some h | with_reducible refine pr_if ?_ ?_
theorem pr_counts {q : Nat → Int32} {M : Mem} (k : Int32) (h : M 15 = q) : Pr q (f_X10_counts 0 k M) := by
  unfold f_X10_counts
  refine pr_2 (fun rc ih a b M hM => ?_) fuel _ _ M h
  repeat' first | (with_reducible exact ih _ _ _ (by assumption)) | (with_reducible exact pr_some (by assumption)) | (with_reducible exact pr_textAt _ (by assumption)) | (with_reducible exact pr_figureAt _ (by assumption)) | (with_reducible exact pr_joined _ _ _ (by assumption)) | (with_reducible exact pr_isIn _ _ _ (by assumption)) | (with_reducible exact pr_heldIn _ _ (by assumption)) | (with_reducible refine pr_vv ?_) | (with_reducible refine pr_jn ?_) | (with_reducible refine pr_ld (fun _ => ?_)) | (with_reducible refine pr_s24 (by assumption) (fun _ _ => ?_)) | (with_reducible refine pr_s25 (by assumption) (fun _ _ => ?_)) | (with_reducible refine pr_if ?_ ?_) | (with_reducible refine pr_dv ?_) | (with_reducible refine pr_bd ?_ (fun _ _ _ => ?_))
theorem pr_worked {q : Nat → Int32} {M : Mem} (t : Int32) (h : M 15 = q) : Pr q (f_X10_worked 0 t M) := by
  unfold f_X10_worked
  refine pr_2 (fun rc ih a b M hM => ?_) fuel _ _ M h
  repeat' first | (with_reducible exact ih _ _ _ (by assumption)) | (with_reducible exact pr_some (by assumption)) | (with_reducible exact pr_textAt _ (by assumption)) | (with_reducible exact pr_figureAt _ (by assumption)) | (with_reducible exact pr_joined _ _ _ (by assumption)) | (with_reducible exact pr_isIn _ _ _ (by assumption)) | (with_reducible exact pr_heldIn _ _ (by assumption)) | (with_reducible exact pr_counts _ (by assumption)) | (with_reducible refine pr_vv ?_) | (with_reducible refine pr_jn ?_) | (with_reducible refine pr_ld (fun _ => ?_)) | (with_reducible refine pr_s24 (by assumption) (fun _ _ => ?_)) | (with_reducible refine pr_s25 (by assumption) (fun _ _ => ?_)) | (with_reducible refine pr_if ?_ ?_) | (with_reducible refine pr_dv ?_) | (with_reducible refine pr_bd ?_ (fun _ _ _ => ?_))
theorem pr_unlike {q : Nat → Int32} {M : Mem} (a b : Int32) (h : M 15 = q) : Pr q (f_X10_unlike a b M) := by
  unfold f_X10_unlike
  refine pr_4 (fun rc ih a b c d M hM => ?_) fuel _ _ _ _ M h
  repeat' first | (with_reducible exact ih _ _ _ _ _ (by assumption)) | (with_reducible exact pr_some (by assumption)) | (with_reducible exact pr_textAt _ (by assumption)) | (with_reducible exact pr_figureAt _ (by assumption)) | (with_reducible exact pr_joined _ _ _ (by assumption)) | (with_reducible exact pr_isIn _ _ _ (by assumption)) | (with_reducible exact pr_heldIn _ _ (by assumption)) | (with_reducible exact pr_counts _ (by assumption)) | (with_reducible exact pr_worked _ (by assumption)) | (with_reducible refine pr_vv ?_) | (with_reducible refine pr_jn ?_) | (with_reducible refine pr_ld (fun _ => ?_)) | (with_reducible refine pr_s24 (by assumption) (fun _ _ => ?_)) | (with_reducible refine pr_s25 (by assumption) (fun _ _ => ?_)) | (with_reducible refine pr_if ?_ ?_) | (with_reducible refine pr_dv ?_) | (with_reducible refine pr_bd ?_ (fun _ _ _ => ?_))
theorem pr_yearOf {q : Nat → Int32} {M : Mem} (a : Int32) (h : M 15 = q) : Pr q (f_X10_yearOf 0 a M) := by
  unfold f_X10_yearOf
  repeat' first | (with_reducible exact pr_some (by assumption)) | (with_reducible exact pr_textAt _ (by assumption)) | (with_reducible exact pr_figureAt _ (by assumption)) | (with_reducible exact pr_joined _ _ _ (by assumption)) | (with_reducible exact pr_isIn _ _ _ (by assumption)) | (with_reducible exact pr_heldIn _ _ (by assumption)) | (with_reducible exact pr_counts _ (by assumption)) | (with_reducible exact pr_worked _ (by assumption)) | (with_reducible refine pr_vv ?_) | (with_reducible refine pr_jn ?_) | (with_reducible refine pr_ld (fun _ => ?_)) | (with_reducible refine pr_s24 (by assumption) (fun _ _ => ?_)) | (with_reducible refine pr_s25 (by assumption) (fun _ _ => ?_)) | (with_reducible refine pr_if ?_ ?_) | (with_reducible refine pr_dv ?_) | (with_reducible refine pr_bd ?_ (fun _ _ _ => ?_))
theorem pr_spreadFor {q : Nat → Int32} {M : Mem} (a b : Int32) (h : M 15 = q) : Pr q (f_X10_spreadFor 0 a b M) := by
  unfold f_X10_spreadFor
  repeat' first | (with_reducible exact pr_some (by assumption)) | (with_reducible exact pr_textAt _ (by assumption)) | (with_reducible exact pr_figureAt _ (by assumption)) | (with_reducible exact pr_joined _ _ _ (by assumption)) | (with_reducible exact pr_isIn _ _ _ (by assumption)) | (with_reducible exact pr_heldIn _ _ (by assumption)) | (with_reducible exact pr_counts _ (by assumption)) | (with_reducible exact pr_worked _ (by assumption)) | (with_reducible refine pr_vv ?_) | (with_reducible refine pr_jn ?_) | (with_reducible refine pr_ld (fun _ => ?_)) | (with_reducible refine pr_s24 (by assumption) (fun _ _ => ?_)) | (with_reducible refine pr_s25 (by assumption) (fun _ _ => ?_)) | (with_reducible refine pr_if ?_ ?_) | (with_reducible refine pr_dv ?_) | (with_reducible refine pr_bd ?_ (fun _ _ _ => ?_))
theorem pr_spreadOf {q : Nat → Int32} {M : Mem} (a : Int32) (h : M 15 = q) : Pr q (f_X10_spreadOf 0 a M) := by
  unfold f_X10_spreadOf
  repeat' first | (with_reducible exact pr_spreadFor _ _ (by assumption)) | (with_reducible exact pr_yearOf _ (by assumption)) | (with_reducible exact pr_some (by assumption)) | (with_reducible exact pr_textAt _ (by assumption)) | (with_reducible exact pr_figureAt _ (by assumption)) | (with_reducible exact pr_joined _ _ _ (by assumption)) | (with_reducible exact pr_isIn _ _ _ (by assumption)) | (with_reducible exact pr_heldIn _ _ (by assumption)) | (with_reducible exact pr_counts _ (by assumption)) | (with_reducible exact pr_worked _ (by assumption)) | (with_reducible refine pr_vv ?_) | (with_reducible refine pr_jn ?_) | (with_reducible refine pr_ld (fun _ => ?_)) | (with_reducible refine pr_s24 (by assumption) (fun _ _ => ?_)) | (with_reducible refine pr_s25 (by assumption) (fun _ _ => ?_)) | (with_reducible refine pr_if ?_ ?_) | (with_reducible refine pr_dv ?_) | (with_reducible refine pr_bd ?_ (fun _ _ _ => ?_))
theorem pr_workedOf {q : Nat → Int32} {M : Mem} (a : Int32) (h : M 15 = q) : Pr q (f_X10_workedOf 0 a M) := by
  unfold f_X10_workedOf
  refine pr_bd (pr_figureAt _ h) (fun x M h => ?_)
  refine pr_2 (fun rc ih a b M hM => ?_) fuel _ _ M h
  repeat' first | (with_reducible exact pr_worked _ (by assumption)) | (with_reducible exact ih _ _ _ (by assumption)) | (with_reducible exact pr_some (by assumption)) | (with_reducible exact pr_textAt _ (by assumption)) | (with_reducible exact pr_figureAt _ (by assumption)) | (with_reducible exact pr_joined _ _ _ (by assumption)) | (with_reducible exact pr_isIn _ _ _ (by assumption)) | (with_reducible exact pr_heldIn _ _ (by assumption)) | (with_reducible exact pr_counts _ (by assumption)) | (with_reducible exact pr_worked _ (by assumption)) | (with_reducible refine pr_vv ?_) | (with_reducible refine pr_jn ?_) | (with_reducible refine pr_ld (fun _ => ?_)) | (with_reducible refine pr_s24 (by assumption) (fun _ _ => ?_)) | (with_reducible refine pr_s25 (by assumption) (fun _ _ => ?_)) | (with_reducible refine pr_if ?_ ?_) | (with_reducible refine pr_dv ?_) | (with_reducible refine pr_bd ?_ (fun _ _ _ => ?_))
theorem pr_fits {q : Nat → Int32} {M : Mem} (a b : Int32) (h : M 15 = q) : Pr q (f_X10_fits 0 a b M) := by
  unfold f_X10_fits
  repeat' first | (with_reducible exact pr_spreadOf _ (by assumption)) | (with_reducible exact pr_workedOf _ (by assumption)) | (with_reducible exact pr_unlike _ _ (by assumption)) | (with_reducible exact pr_some (by assumption)) | (with_reducible exact pr_textAt _ (by assumption)) | (with_reducible exact pr_figureAt _ (by assumption)) | (with_reducible exact pr_joined _ _ _ (by assumption)) | (with_reducible exact pr_isIn _ _ _ (by assumption)) | (with_reducible exact pr_heldIn _ _ (by assumption)) | (with_reducible exact pr_counts _ (by assumption)) | (with_reducible exact pr_worked _ (by assumption)) | (with_reducible refine pr_vv ?_) | (with_reducible refine pr_jn ?_) | (with_reducible refine pr_ld (fun _ => ?_)) | (with_reducible refine pr_s24 (by assumption) (fun _ _ => ?_)) | (with_reducible refine pr_s25 (by assumption) (fun _ _ => ?_)) | (with_reducible refine pr_if ?_ ?_) | (with_reducible refine pr_dv ?_) | (with_reducible refine pr_bd ?_ (fun _ _ _ => ?_))
theorem y_fits15 {f j r : Int32} {N N' : Mem} (h : f_X10_fits 0 f j N = some (r, N')) : N' 15 = N 15 := pr_fits f j rfl r N' h
