theorem m0_1 (j : Nat) (h7 : j ≠ 7) (h8 : j ≠ 8) : M0m 1 j = nI 0 := by
  show upd (upd (fun _ => 0) 7 1) 8 7700 j = nI 0
  rw [upd_n h8, upd_n h7]
  rfl
theorem inv0 : Inv M0c M0m := by
  refine ⟨⟨0, 0, 0, 0, 0, 0, 0, ?_⟩, Or.inl ⟨rfl, rfl⟩, ⟨0, by decide, rfl, rfl, fun j hj => absurd hj (Nat.not_lt_zero j)⟩, fun i hi => ?_, fun i hi => ?_, ⟨0, by decide, rfl, rfl, fun j hj => absurd hj (Nat.not_lt_zero j)⟩⟩
  · refine ⟨⟨rfl, m0_1 0 (by decide) (by decide), by decide, fun t ht => absurd ht (Nat.not_lt_zero t), fun t ht => absurd ht (Nat.not_lt_zero _)⟩, ⟨rfl, m0_1 1 (by decide) (by decide), by decide, fun t ht => absurd ht (Nat.not_lt_zero t)⟩, ⟨rfl, m0_1 2 (by decide) (by decide), by decide, fun t ht => absurd ht (Nat.not_lt_zero t)⟩, ⟨fun l hl => ⟨0, by decide, rfl, m0_1 _ (by omega) (by omega), fun i hi => absurd hi (Nat.not_lt_zero i), fun i hi => absurd hi (Nat.not_lt_zero _)⟩, fun f hf => absurd hf (Nat.not_lt_zero f)⟩, ⟨rfl, m0_1 3 (by decide) (by decide), by decide, fun t ht => absurd ht (Nat.not_lt_zero t)⟩, ⟨fun i hi => ⟨m0_1 _ (by omega) (by omega), 0, by decide, rfl⟩, fun a b ha hb => rfl⟩, ⟨rfl, m0_1 4 (by decide) (by decide), by decide, fun t ht => absurd ht (Nat.not_lt_zero t)⟩, ⟨rfl, m0_1 5 (by decide) (by decide), by decide, fun t ht => absurd ht (Nat.not_lt_zero t)⟩, ⟨rfl, m0_1 6 (by decide) (by decide), by decide, fun t ht => absurd ht (Nat.not_lt_zero t)⟩, ⟨rfl, rfl, 7700, by decide, rfl⟩⟩
  · rcases (show i = 0 ∨ i = 1 ∨ i = 2 ∨ i = 3 by omega) with rfl | rfl | rfl | rfl
    · exact ⟨rfl, rfl, Or.inl rfl, ⟨0, by decide, rfl⟩, fun j hj => rfl⟩
    · exact ⟨rfl, rfl, Or.inl rfl, ⟨0, by decide, rfl⟩, fun j hj => rfl⟩
    · exact ⟨rfl, rfl, Or.inl rfl, ⟨0, by decide, rfl⟩, fun j hj => rfl⟩
    · exact ⟨rfl, rfl, Or.inl rfl, ⟨0, by decide, rfl⟩, fun j hj => rfl⟩
  · rcases (show i = 0 ∨ i = 1 ∨ i = 2 ∨ i = 3 ∨ i = 4 by omega) with rfl | rfl | rfl | rfl | rfl
    · exact ⟨rfl, Or.inl rfl⟩
    · exact ⟨rfl, Or.inl rfl⟩
    · exact ⟨rfl, Or.inl rfl⟩
    · exact ⟨rfl, Or.inl rfl⟩
    · exact ⟨rfl, Or.inl rfl⟩
