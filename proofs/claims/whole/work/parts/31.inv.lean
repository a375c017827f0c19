/-! WHAT HOLDS BETWEEN THE CLASS'S MEMORY M AND THE MODEL'S MEMORY N -/
def Rg (x : Int32) (n : Nat) : Prop := ∃ k, k < n ∧ x = nI k
def RT (nT : Nat) (cn : Int32) (yr g : Nat → Int32) : Prop := cn = nI nT ∧ g 0 = nI nT ∧ nT ≤ 12 ∧ (∀ t, t < nT → g (10 + t) = yr t ∧ Rg (yr t) 60) ∧ ∀ t, t + 1 < nT → yr t ≤ yr (t + 1)
def RF (nT nF : Nat) (cn : Int32) (tb kd vl pr fr g : Nat → Int32) : Prop := cn = nI nF ∧ g 1 = nI nF ∧ nF ≤ 40 ∧ ∀ f, f < nF → (g (30 + 6 * f) = tb f ∧ g (31 + 6 * f) = kd f ∧ g (32 + 6 * f) = vl f ∧ g (33 + 6 * f) = pr f ∧ g (34 + 6 * f) = fr f) ∧ Rg (tb f) nT ∧ Rg (kd f) 8 ∧ Rg (vl f) 10000 ∧ (Rg (pr f) 1000 ∧ pr f ≠ 0) ∧ (fr f = -1 ∨ Rg (fr f) f)
/-- the steps of one text: what the class holds (st), what the model holds (g from q on, in twos), how deep the pile is ahead of each step -/
def StepOK (key : Int32) (x w v : Int32) (d d' : Nat) : Prop :=
  (Rg x 10000 ∧ w = 0 ∧ v = x ∧ d' = d + 1) ∨
  (w = 1 ∧ d' = d + 1 ∧ ((key = 0 ∧ ((x = -1 ∧ v = 110) ∨ (x = -2 ∧ v = 102) ∨ (x = -3 ∧ v = 105))) ∨ (key = 1 ∧ ((x = -1 ∧ v = 110) ∨ (x = -2 ∧ v = 121))) ∨ (key = 2 ∧ ((x = -1 ∧ v = 99) ∨ (x = -2 ∧ v = 100) ∨ (x = -3 ∧ v = 97))))) ∨
  (w = 2 ∧ v = 33 ∧ x = -33 ∧ 1 ≤ d ∧ d' = d) ∨
  (w = 2 ∧ x = -v ∧ (v = 43 ∨ v = 45 ∨ v = 42 ∨ v = 47 ∨ v = 60 ∨ v = 61 ∨ v = 62 ∨ v = 38 ∨ v = 124) ∧ 2 ≤ d ∧ d' + 1 = d)
def Steps1 (key : Int32) (m : Nat) (x : Nat → Int32) (w v : Nat → Int32) : Prop := ∃ d : Nat → Nat, d 0 = 0 ∧ d m = 1 ∧ ∀ k, k < m → StepOK key (x k) (w k) (v k) (d k) (d (k + 1))
def RX (nX : Nat) (cn : Int32) (key tbl lv len sp g : Nat → Int32) : Prop := cn = nI nX ∧ g 2 = nI nX ∧ nX ≤ 14 ∧ ∀ t, t < nX → ((key t = 0 ∧ Rg (tbl t) 12 ∧ g (500 + 200 * t) = tbl t) ∨ (key t = 1 ∧ tbl t = (-1000000005) ∧ g (500 + 200 * t) = 12) ∨ (key t = 2 ∧ tbl t = (-1000000005) ∧ g (500 + 200 * t) = 13)) ∧ g (501 + 200 * t) = lv t ∧ ∃ m, m ≤ 96 ∧ len t = nI m ∧ g (502 + 200 * t) = nI m ∧ Steps1 (key t) m (fun k => sp (96 * t + k)) (fun k => g (504 + 200 * t + 2 * k)) (fun k => g (505 + 200 * t + 2 * k))
def RLn (nF : Nat) (len fg tb g : Nat → Int32) : Prop := (∀ l, l < 6 → ∃ k, k ≤ 12 ∧ len l = nI k ∧ g (270 + 13 * l) = nI k ∧ (∀ i, i < k → ∃ f, f < nF ∧ fg (12 * l + i) = nI f ∧ g (271 + 13 * l + i) = nI f ∧ g (35 + 6 * f) = nI l) ∧ ∀ i, i + 1 < k → ∀ f f', fg (12 * l + i) = nI f → fg (12 * l + (i + 1)) = nI f' → f < nF → f' < nF → tb f < tb f') ∧ ∀ f, f < nF → (g (35 + 6 * f) = -1 ∧ ∀ l i, l < 6 → nI i < len l → i < 12 → fg (12 * l + i) ≠ nI f) ∨ ∃ l i, l < 6 ∧ i < 12 ∧ nI i < len l ∧ fg (12 * l + i) = nI f ∧ g (35 + 6 * f) = nI l
def RC (nF nC : Nat) (cn : Int32) (ch g : Nat → Int32) : Prop := cn = nI nC ∧ g 3 = nI nC ∧ nC ≤ 6 ∧ ∀ k, k < nC → g (350 + k) = ch k ∧ Rg (ch k) nF
def RR (rd g : Nat → Int32) : Prop := (∀ i, i < 36 → g (360 + i) = rd i ∧ Rg (rd i) 31) ∧ ∀ a b, a < 6 → b < 6 → rd (6 * a + b) = rd (6 * b + a)
def RD (nE : Nat) (cn : Int32) (dy pl g : Nat → Int32) : Prop := cn = nI nE ∧ g 4 = nI nE ∧ nE ≤ 20 ∧ (∀ k, k < nE → g (400 + 2 * k) = dy k ∧ g (401 + 2 * k) = pl k ∧ Rg (dy k) 10000 ∧ Rg (pl k) 6)
def RN (nL : Nat) (cn : Int32) (ot ol nd g : Nat → Int32) : Prop := cn = nI nL ∧ g 5 = nI nL ∧ nL ≤ 16 ∧ ∀ k, k < nL → g (440 + 3 * k) = ot k ∧ g (441 + 3 * k) = ol k ∧ g (442 + 3 * k) = nd k ∧ Rg (ot k) 4096 ∧ Rg (ol k) 65536 ∧ Rg (nd k) 29
def RO (nS : Nat) (cn : Int32) (tl g : Nat → Int32) : Prop := cn = nI nS ∧ g 6 = nI nS ∧ nS ≤ 8 ∧ ∀ k, k < nS → g (490 + k) = tl k ∧ Rg (tl k) 65536
def RZ (z bs : Int32) (g : Nat → Int32) : Prop := g 7 = z ∧ g 8 = bs ∧ Rg bs 10000
/-- a state of the class at cell b and a row g of the model are one; the counts: tables, figures, texts, chosen, entries, leaners, sources -/
def RS (nT nF nX nC nE nL nS : Nat) (M : Mem) (b : Nat) (g : Nat → Int32) : Prop :=
  RT nT (M (b + 1) 0) (M (b + 2)) g ∧ RF nT nF (M (b + 1) 2) (M (b + 3)) (M (b + 4)) (M (b + 5)) (M (b + 6)) (M (b + 7)) g ∧ RX nX (M (b + 8) 0) (M (b + 9)) (M (b + 10)) (M (b + 11)) (M (b + 12)) (M (b + 13)) g ∧ RLn nF (M (b + 16)) (M (b + 17)) (M (b + 3)) g ∧ RC nF nC (M b 6) (M (b + 28)) g ∧ RR (M (b + 19)) g ∧ RD nE (M (b + 18) 1) (M (b + 20)) (M (b + 21)) g ∧ RN nL (M (b + 23) 0) (M (b + 24)) (M (b + 25)) (M (b + 26)) g ∧ RO nS (M (b + 23) 4) (M (b + 27)) g ∧ RZ (M b 8) (M b 7) g
def RS' (M : Mem) (b : Nat) (g : Nat → Int32) : Prop := ∃ nT nF nX nC nE nL nS, RS nT nF nX nC nE nL nS M b g
/-- the image -/
def RI (M N : Mem) : Prop := (M 0 2 = 0 ∧ N 0 3 = 0) ∨ (M 0 2 = 1 ∧ N 0 3 = 1 ∧ RS' M 31 (N 2))
/-- the tape -/
def RB (cn cm : Int32) (by1 by2 : Nat → Int32) : Prop := ∃ n, n ≤ 96 ∧ cn = nI n ∧ cm = nI n ∧ ∀ j, j < n → Rg (by2 j) 256 ∧ by1 j = (by2 j).toInt8.toInt32
/-- one sheet: its sort, its size, its places -/
def RH (so sz : Int32) (ce : Nat → Int32) (ts tz : Int32) (tn : Nat → Int32) (i : Nat) : Prop := ts = so ∧ tz = sz ∧ (so = -1 ∨ so = 0 ∨ so = 1) ∧ Rg sz 25 ∧ ∀ j, j < 24 → tn (24 * i + j) = ce j
/-- one slot -/
def RP (th kd pr nu sz : Int32) (ce : Nat → Int32) (h hn hp hz : Int32) (hr : Nat → Int32) (i : Nat) : Prop := h = th ∧ ((th = 0) ∨ (th = 1 ∧ hn = kd ∧ hp = pr ∧ Rg kd 8 ∧ Rg pr 1000) ∨ (th = 2 ∧ hz = sz ∧ Rg sz 25 ∧ ∀ j, j < 24 → hr (24 * i + j) = ce j) ∨ (th = 3 ∧ hn = nu))
/-- the numbers that wait -/
def RW (cn cm : Int32) (w1 w2 : Nat → Int32) : Prop := ∃ n, n ≤ 60 ∧ cn = nI n ∧ cm = nI n ∧ ∀ j, j < n → w2 j = w1 j
def Inv (M N : Mem) : Prop := RS' M 1 (N 1) ∧ RI M N ∧ RB (M 61 1) (N 0 13) (M 62) (N 12) ∧ (∀ i, i < 4 → RH (M (66 + 2 * i) 0) (M (66 + 2 * i) 1) (M (67 + 2 * i)) (N 4 i) (N 5 i) (N 6) i) ∧ (∀ i, i < 5 → RP (M (75 + 3 * i) 0) (M (75 + 3 * i) 1) (M (75 + 3 * i) 2) (M (75 + 3 * i) 3) (M (76 + 3 * i) 1) (M (77 + 3 * i)) (N 7 i) (N 8 i) (N 9 i) (N 10 i) (N 11) i) ∧ RW (M 0 5) (N 0 37) (M 64) (N 20)
