/-! THE WORLD AS NUMBERS: a graph of cells that never changes its shape (G), where each cell lies (ad), what the numbers in it are (M) -/
abbrev Mem : Type := Nat → Nat → Int32
abbrev Gr : Type := List (Nat × Nat × List (Option Nat))
abbrev Ks : Type := ClassId × ClassId × ClassId × ClassId
def gk (G : Gr) (i : Nat) : Nat × Nat × List (Option Nat) := (G[i]?).getD (99, 0, [])
def gcl (G : Gr) (i : Nat) : Nat := (gk G i).1
def gsz (G : Gr) (i : Nat) : Nat := (gk G i).2.1
def gor (G : Gr) (i j : Nat) : Option Nat := ((gk G i).2.2[j]?).getD none
def grf (G : Gr) (i j : Nat) : Nat := (gor G i j).getD 0
theorem gcl_lt {G : Gr} {i k : Nat} (h : gcl G i = k) (hk : k ≠ 99) : i < G.length := by
  rcases Nat.lt_or_ge i G.length with q | q
  · exact q
  · exact absurd (by rw [← h]; simp [gcl, gk, List.getElem?_eq_none q]) hk
def gfv (G : Gr) (ad : Nat → Nat) (M : Mem) (i j : Nat) : Value := match gor G i j with
  | some k => Value.ref (ad k)
  | none => Value.int (M i j)
def gce (K : Ks) (G : Gr) (ad : Nat → Nat) (M : Mem) (i : Nat) : va_E :=
  if gcl G i = 20 then .inl (K.1, gsz G i, .inl (M i))
  else if gcl G i = 21 then .inl (K.2.1, gsz G i, .inl (M i))
  else if gcl G i = 22 then .inl (K.2.2.1, gsz G i, .inr (.inr (.inr (.inr (fun j => (gor G i j).map ad)))))
  else if gcl G i = 23 then .inl (K.2.2.2, gsz G i, .inr (.inr (.inr (.inr (fun j => (gor G i j).map ad)))))
  else .inr (gcl G i, (List.range (gsz G i)).map (gfv G ad M i))
def gws (K : Ks) (G : Gr) (ad : Nat → Nat) (M : Mem) : va_W := (List.range G.length).map (fun i => (ad i, gce K G ad M i))
def gty (K : Ks) : List (ClassId × FieldType) := [(K.1, .int), (K.2.1, .byte), (K.2.2.1, .object "TwinTables$Sheet"), (K.2.2.2, .object "TwinTables$Slot")]
theorem gws_at {K : Ks} {G : Gr} {ad : Nat → Nat} {M : Mem} {i : Nat} (h : i < G.length) : (gws K G ad M)[i]? = some (ad i, gce K G ad M i) := by simp [gws, h]
theorem gws_in {K : Ks} {G : Gr} {ad : Nat → Nat} {M : Mem} {i : Nat} {q : Nat × va_E} (h : (gws K G ad M)[i]? = some q) : i < G.length ∧ q = (ad i, gce K G ad M i) := by
  have hl : i < G.length := by
    have := (List.getElem?_eq_some_iff.mp h).1
    simpa [gws] using this
  rw [gws_at hl] at h
  exact ⟨hl, (Option.some.inj h).symm⟩
theorem gce_congr {K : Ks} {G : Gr} {ad : Nat → Nat} {M M' : Mem} {i : Nat} (h : M' i = M i) : gce K G ad M i = gce K G ad M' i := by
  have e : gfv G ad M i = gfv G ad M' i := by funext j; simp only [gfv, h]
  simp only [gce, h, e]
theorem gws_set {K : Ks} {G : Gr} {ad : Nat → Nat} {M M' : Mem} {i : Nat} (h : i < G.length) (hM : ∀ b, b ≠ i → M' b = M b) : (gws K G ad M).set i (ad i, gce K G ad M' i) = gws K G ad M' := by
  apply List.ext_getElem?
  intro n
  by_cases hn : n = i
  · subst hn
    rw [List.getElem?_set_self (by simpa [gws] using h), gws_at h]
  · rw [List.getElem?_set_ne (Ne.symm hn)]
    by_cases hl : n < G.length
    · rw [gws_at hl, gws_at hl, gce_congr (hM n hn)]
    · rw [List.getElem?_eq_none (by simp [gws]; omega), List.getElem?_eq_none (by simp [gws]; omega)]
def up (M : Mem) (a k : Nat) (v : Int32) : Mem := fun b => if b = a then upd (M a) k v else M b
theorem up_ne {M : Mem} {a k b : Nat} {v : Int32} (h : b ≠ a) : up M a k v b = M b := if_neg h
theorem up_at {M : Mem} {a k : Nat} {v : Int32} : up M a k v a = upd (M a) k v := if_pos rfl
def cpm (M : Mem) (a0 sp a dp n : Nat) : Mem := fun b => if b = a then va_cpy (M a0) (M a) sp dp n else M b
theorem cpm_ne {M : Mem} {a0 sp a dp n b : Nat} (h : b ≠ a) : cpm M a0 sp a dp n b = M b := if_neg h
theorem cpm_at {M : Mem} {a0 sp a dp n : Nat} : cpm M a0 sp a dp n a = va_cpy (M a0) (M a) sp dp n := if_pos rfl
def Gok (G : Gr) (ad : Nat → Nat) (A : Nat → Prop) : Prop := (∀ i j, i < G.length → j < G.length → ad i = ad j → i = j) ∧ ∀ i, i < G.length → A (ad i)
theorem Gok.D {G : Gr} {ad : Nat → Nat} {A : Nat → Prop} (h : Gok G ad A) {K : Ks} {M : Mem} : va_D A (gws K G ad M) := by
  refine ⟨fun i j p q hi hj e => ?_, fun k q hk => ?_⟩
  · obtain ⟨h1, rfl⟩ := gws_in hi
    obtain ⟨h2, rfl⟩ := gws_in hj
    exact h.1 i j h1 h2 e
  · obtain ⟨h1, rfl⟩ := gws_in hk
    exact h.2 k h1
theorem gce_int {K : Ks} {G : Gr} {ad : Nat → Nat} {M : Mem} {a : Nat} (h : gcl G a = 20) : gce K G ad M a = .inl (K.1, gsz G a, .inl (M a)) := by simp [gce, h]
theorem gce_byte {K : Ks} {G : Gr} {ad : Nat → Nat} {M : Mem} {a : Nat} (h : gcl G a = 21) : gce K G ad M a = .inl (K.2.1, gsz G a, .inl (M a)) := by simp [gce, h]
theorem gce_sh {K : Ks} {G : Gr} {ad : Nat → Nat} {M : Mem} {a : Nat} (h : gcl G a = 22) : gce K G ad M a = .inl (K.2.2.1, gsz G a, .inr (.inr (.inr (.inr (fun j => (gor G a j).map ad))))) := by simp [gce, h]
theorem gce_sl {K : Ks} {G : Gr} {ad : Nat → Nat} {M : Mem} {a : Nat} (h : gcl G a = 23) : gce K G ad M a = .inl (K.2.2.2, gsz G a, .inr (.inr (.inr (.inr (fun j => (gor G a j).map ad))))) := by simp [gce, h]
theorem gce_ob {K : Ks} {G : Gr} {ad : Nat → Nat} {M : Mem} {a ci : Nat} (h : gcl G a = ci) (hc : ci < 20) : gce K G ad M a = .inr (ci, (List.range (gsz G a)).map (gfv G ad M a)) := by
  subst h
  unfold gce
  rw [if_neg (by omega), if_neg (by omega), if_neg (by omega), if_neg (by omega)]
/-! WORDS OF THE PROGRAMS AS NUMBERS -/
def vv {α β : Type} (e : α) (k : α → Option β) : Option β := k e
def mm {β : Type} (M : Mem) (k : Mem → Option β) : Option β := k M
def ld {β : Type} (M : Mem) (a : Nat) (i : Int32) (n : Nat) (k : Int32 → Option β) : Option β := if i < 0 ∨ n ≤ i.toNatClampNeg then none else k (M a i.toNatClampNeg)
def st {β : Type} (M : Mem) (a : Nat) (i : Int32) (n : Nat) (v : Int32) (k : Mem → Option β) : Option β := if i < 0 ∨ n ≤ i.toNatClampNeg then none else k (up M a i.toNatClampNeg v)
def la {β : Type} (G : Gr) (a : Nat) (i : Int32) (n : Nat) (k : Nat → Option β) : Option β := if i < 0 ∨ n ≤ i.toNatClampNeg then none else k (grf G a i.toNatClampNeg)
def sl {β : Type} (f : Nat → Int32) (i : Int32) (n : Nat) (k : Int32 → Option β) : Option β := if i < 0 ∨ n ≤ i.toNatClampNeg then none else k (f i.toNatClampNeg)
def dv {β : Type} (y : Int32) (x : Option β) : Option β := if y = 0 then none else x
def dvl {β : Type} (y : Int64) (x : Option β) : Option β := if y = 0 then none else x
def gb {β : Type} (v : Int32) (x : Option β) : Option β := if v = 0 ∨ v = 1 then x else none
def bd {α β : Type} (x : Option (α × Mem)) (k : α → Mem → Option β) : Option β := match x with
  | none => none
  | some q => k q.1 q.2
def cy {β : Type} (M : Mem) (a0 : Nat) (sp : Int32) (n0 a : Nat) (dp : Int32) (n1 : Nat) (n : Int32) (k : Mem → Option β) : Option β := if sp < 0 ∨ dp < 0 ∨ n < 0 ∨ n0 < sp.toNatClampNeg + n.toNatClampNeg ∨ n1 < dp.toNatClampNeg + n.toNatClampNeg then none else k (cpm M a0 sp.toNatClampNeg a dp.toNatClampNeg n.toNatClampNeg)
def jn {α β : Type} (r : α) (b : α → Option β) : Option β := b r
def it0 {β : Type} (B : (Mem → Option β) → Mem → Option β) : Nat → Mem → Option β
  | 0 => fun _ => none
  | n + 1 => B (it0 B n)
def it1 {A1 β : Type} (B : (A1 → Mem → Option β) → A1 → Mem → Option β) : Nat → A1 → Mem → Option β
  | 0 => fun _ _ => none
  | n + 1 => B (it1 B n)
def it2 {A1 A2 β : Type} (B : (A1 → A2 → Mem → Option β) → A1 → A2 → Mem → Option β) : Nat → A1 → A2 → Mem → Option β
  | 0 => fun _ _ _ => none
  | n + 1 => B (it2 B n)
def it3 {A1 A2 A3 β : Type} (B : (A1 → A2 → A3 → Mem → Option β) → A1 → A2 → A3 → Mem → Option β) : Nat → A1 → A2 → A3 → Mem → Option β
  | 0 => fun _ _ _ _ => none
  | n + 1 => B (it3 B n)
def it4 {A1 A2 A3 A4 β : Type} (B : (A1 → A2 → A3 → A4 → Mem → Option β) → A1 → A2 → A3 → A4 → Mem → Option β) : Nat → A1 → A2 → A3 → A4 → Mem → Option β
  | 0 => fun _ _ _ _ _ => none
  | n + 1 => B (it4 B n)
def it5 {A1 A2 A3 A4 A5 β : Type} (B : (A1 → A2 → A3 → A4 → A5 → Mem → Option β) → A1 → A2 → A3 → A4 → A5 → Mem → Option β) : Nat → A1 → A2 → A3 → A4 → A5 → Mem → Option β
  | 0 => fun _ _ _ _ _ _ => none
  | n + 1 => B (it5 B n)
theorem ld_s {β : Type} {M : Mem} {a : Nat} {i : Int32} {n : Nat} {k : Int32 → Option β} {z : β} (h : ld M a i n k = some z) : vp_in i n ∧ k (M a i.toNatClampNeg) = some z := by
  unfold ld at h
  split at h
  · cases h
  · next g => exact ⟨g, h⟩
theorem st_s {β : Type} {M : Mem} {a : Nat} {i : Int32} {n : Nat} {v : Int32} {k : Mem → Option β} {z : β} (h : st M a i n v k = some z) : vp_in i n ∧ k (up M a i.toNatClampNeg v) = some z := by
  unfold st at h
  split at h
  · cases h
  · next g => exact ⟨g, h⟩
theorem la_s {β : Type} {G : Gr} {a : Nat} {i : Int32} {n : Nat} {k : Nat → Option β} {z : β} (h : la G a i n k = some z) : vp_in i n ∧ k (grf G a i.toNatClampNeg) = some z := by
  unfold la at h
  split at h
  · cases h
  · next g => exact ⟨g, h⟩
theorem sl_s {β : Type} {f : Nat → Int32} {i : Int32} {n : Nat} {k : Int32 → Option β} {z : β} (h : sl f i n k = some z) : vp_in i n ∧ k (f i.toNatClampNeg) = some z := by
  unfold sl at h
  split at h
  · cases h
  · next g => exact ⟨g, h⟩
theorem dv_s {β : Type} {y : Int32} {x : Option β} {z : β} (h : dv y x = some z) : ¬ y = 0 ∧ x = some z := by
  unfold dv at h
  split at h
  · cases h
  · next g => exact ⟨g, h⟩
theorem gb_s {β : Type} {v : Int32} {x : Option β} {z : β} (h : gb v x = some z) : (v = 0 ∨ v = 1) ∧ x = some z := by
  unfold gb at h
  split at h
  · next g => exact ⟨g, h⟩
  · cases h
theorem bd_s {α β : Type} {x : Option (α × Mem)} {k : α → Mem → Option β} {z : β} (h : bd x k = some z) : ∃ r M, x = some (r, M) ∧ k r M = some z := by
  cases x with
  | none => cases h
  | some q => exact ⟨q.1, q.2, rfl, h⟩
theorem cy_s {β : Type} {M : Mem} {a0 : Nat} {sp : Int32} {n0 a : Nat} {dp : Int32} {n1 : Nat} {n : Int32} {k : Mem → Option β} {z : β} (h : cy M a0 sp n0 a dp n1 n k = some z) : ¬ sp < 0 ∧ ¬ dp < 0 ∧ ¬ n < 0 ∧ sp.toNatClampNeg + n.toNatClampNeg ≤ n0 ∧ dp.toNatClampNeg + n.toNatClampNeg ≤ n1 ∧ k (cpm M a0 sp.toNatClampNeg a dp.toNatClampNeg n.toNatClampNeg) = some z := by
  unfold cy at h
  split at h
  · cases h
  · next g =>
    simp only [not_or] at g
    exact ⟨g.1, g.2.1, g.2.2.1, by omega, by omega, h⟩
theorem jn_w {α β : Type} {r : α} {b : α → Option β} {z : β} (h : jn r b = some z) : ∃ k, k = r ∧ b k = some z := ⟨r, rfl, h⟩
theorem it0_w {β : Type} {B : (Mem → Option β) → Mem → Option β} {n : Nat} {M : Mem} {z : β} (h : it0 B (n + 1) M = some z) : ∃ k, k = it0 B n ∧ B k M = some z := ⟨_, rfl, h⟩
theorem it1_w {A1 β : Type} {B : (A1 → Mem → Option β) → A1 → Mem → Option β} {n : Nat} {x1 : A1} {M : Mem} {z : β} (h : it1 B (n + 1) x1 M = some z) : ∃ k, k = it1 B n ∧ B k x1 M = some z := ⟨_, rfl, h⟩
theorem it2_w {A1 A2 β : Type} {B : (A1 → A2 → Mem → Option β) → A1 → A2 → Mem → Option β} {n : Nat} {x1 : A1} {x2 : A2} {M : Mem} {z : β} (h : it2 B (n + 1) x1 x2 M = some z) : ∃ k, k = it2 B n ∧ B k x1 x2 M = some z := ⟨_, rfl, h⟩
theorem it3_w {A1 A2 A3 β : Type} {B : (A1 → A2 → A3 → Mem → Option β) → A1 → A2 → A3 → Mem → Option β} {n : Nat} {x1 : A1} {x2 : A2} {x3 : A3} {M : Mem} {z : β} (h : it3 B (n + 1) x1 x2 x3 M = some z) : ∃ k, k = it3 B n ∧ B k x1 x2 x3 M = some z := ⟨_, rfl, h⟩
theorem it4_w {A1 A2 A3 A4 β : Type} {B : (A1 → A2 → A3 → A4 → Mem → Option β) → A1 → A2 → A3 → A4 → Mem → Option β} {n : Nat} {x1 : A1} {x2 : A2} {x3 : A3} {x4 : A4} {M : Mem} {z : β} (h : it4 B (n + 1) x1 x2 x3 x4 M = some z) : ∃ k, k = it4 B n ∧ B k x1 x2 x3 x4 M = some z := ⟨_, rfl, h⟩
theorem it5_w {A1 A2 A3 A4 A5 β : Type} {B : (A1 → A2 → A3 → A4 → A5 → Mem → Option β) → A1 → A2 → A3 → A4 → A5 → Mem → Option β} {n : Nat} {x1 : A1} {x2 : A2} {x3 : A3} {x4 : A4} {x5 : A5} {M : Mem} {z : β} (h : it5 B (n + 1) x1 x2 x3 x4 x5 M = some z) : ∃ k, k = it5 B n ∧ B k x1 x2 x3 x4 x5 M = some z := ⟨_, rfl, h⟩
theorem it0_g {β : Type} {B : (Mem → Option β) → Mem → Option β} {n : Nat} {M : Mem} {z : β} (h : it0 B n M = some z) : ∃ F, F = B ∧ it0 F n M = some z := ⟨_, rfl, h⟩
theorem it1_g {A1 β : Type} {B : (A1 → Mem → Option β) → A1 → Mem → Option β} {n : Nat} {x1 : A1} {M : Mem} {z : β} (h : it1 B n x1 M = some z) : ∃ F, F = B ∧ it1 F n x1 M = some z := ⟨_, rfl, h⟩
theorem it2_g {A1 A2 β : Type} {B : (A1 → A2 → Mem → Option β) → A1 → A2 → Mem → Option β} {n : Nat} {x1 : A1} {x2 : A2} {M : Mem} {z : β} (h : it2 B n x1 x2 M = some z) : ∃ F, F = B ∧ it2 F n x1 x2 M = some z := ⟨_, rfl, h⟩
theorem it3_g {A1 A2 A3 β : Type} {B : (A1 → A2 → A3 → Mem → Option β) → A1 → A2 → A3 → Mem → Option β} {n : Nat} {x1 : A1} {x2 : A2} {x3 : A3} {M : Mem} {z : β} (h : it3 B n x1 x2 x3 M = some z) : ∃ F, F = B ∧ it3 F n x1 x2 x3 M = some z := ⟨_, rfl, h⟩
theorem it4_g {A1 A2 A3 A4 β : Type} {B : (A1 → A2 → A3 → A4 → Mem → Option β) → A1 → A2 → A3 → A4 → Mem → Option β} {n : Nat} {x1 : A1} {x2 : A2} {x3 : A3} {x4 : A4} {M : Mem} {z : β} (h : it4 B n x1 x2 x3 x4 M = some z) : ∃ F, F = B ∧ it4 F n x1 x2 x3 x4 M = some z := ⟨_, rfl, h⟩
theorem it5_g {A1 A2 A3 A4 A5 β : Type} {B : (A1 → A2 → A3 → A4 → A5 → Mem → Option β) → A1 → A2 → A3 → A4 → A5 → Mem → Option β} {n : Nat} {x1 : A1} {x2 : A2} {x3 : A3} {x4 : A4} {x5 : A5} {M : Mem} {z : β} (h : it5 B n x1 x2 x3 x4 x5 M = some z) : ∃ F, F = B ∧ it5 F n x1 x2 x3 x4 x5 M = some z := ⟨_, rfl, h⟩
