theorem nI_ne {j : Nat} (h : j < 2 ^ 31) : ¬ nI j = -1 := fun e => by
  have h1 := congrArg Int32.toInt e
  rw [nI_toInt h] at h1
  have h2 : (-1 : Int32).toInt = -1 := by decide
  omega
theorem nI_nl {j : Nat} (h : j < 2 ^ 31) : ¬ nI j < 0 := nI_pos h
theorem nI_bd {j n : Nat} (h : j < n) (hn : n ≤ 60000) : ¬ (nI j < 0 ∨ n ≤ (nI j).toNatClampNeg) := by
  rw [nI_clamp (by omega)]
  intro q
  rcases q with q | q
  · exact nI_pos (by omega) q
  · omega
/-- a reference of the class beside the reference's number of a THING -/
def pr (σ : Sg) (n : Nat) (q : Option Nat) (v : Int32) : Prop := (v = -1 ∧ q = none) ∨ ∃ a j, q = some a ∧ v = nI j ∧ j < n ∧ gc σ a = 7 ∧ gi σ 600 a = nI j
/-- a THING at a, number i -/
def Tk (σ : Sg) (μ : Mu) (Tn Pn a i : Nat) : Prop := gi σ 601 a = mI μ 4 i ∧
  (((mI μ 4 i = 1 ∨ mI μ 4 i = 6) ∧ gj σ 602 a = mJ μ 7 i ∧ gp σ 603 a = none ∧ gp σ 604 a = none) ∨
   ((mI μ 4 i = 2 ∨ mI μ 4 i = 3) ∧ pr σ Tn (gp σ 603 a) (mI μ 5 i) ∧ pr σ Tn (gp σ 604 a) (mI μ 6 i)) ∨
   (mI μ 4 i = 4 ∧ pr σ Tn (gp σ 603 a) (mI μ 5 i) ∧ gp σ 604 a = none) ∨
   (mI μ 4 i = 5 ∧ mI μ 5 i = -1 ∧ mI μ 6 i = -1 ∧ gp σ 606 a = none) ∨
   (mI μ 4 i = 5 ∧ ∃ z b q, mI μ 5 i = nI z ∧ mJ μ 7 i = lN b ∧ b + z ≤ Pn ∧ gp σ 606 a = some q ∧ gc σ q = 12 ∧ gl σ q = z ∧ gi σ 605 a = mI μ 6 i ∧ (mI μ 6 i = 0 ∨ mI μ 6 i = 1 ∨ mI μ 6 i = 2) ∧ ∀ j, j < z → pr σ Tn (ap σ q j) (mI μ 8 (b + j))))
def rb (μ : Mu) (i : Nat) : Nat := (mJ μ 7 i).toInt32.toNatClampNeg
def rz (μ : Mu) (i : Nat) : Nat := (mI μ 5 i).toNatClampNeg
/-- THINGS -/
def GT (σ : Sg) (μ : Mu) (Tn Pn sa : Nat) : Prop := Tn ≤ 50000 ∧ Pn ≤ 20000 ∧ mS μ 809 = nI Tn ∧ mS μ 811 = nI Pn ∧
  (∀ a, gc σ a = 7 → ∃ i, i < Tn ∧ gi σ 600 a = nI i ∧ Tk σ μ Tn Pn a i) ∧
  (∀ a b, gc σ a = 7 → gc σ b = 7 → gi σ 600 a = gi σ 600 b → a = b) ∧
  (∀ a b q, gc σ a = 7 → gc σ b = 7 → gp σ 606 a = some q → gp σ 606 b = some q → a = b) ∧
  (∀ a q, gc σ a = 7 → gp σ 606 a = some q → q ≠ sa ∧ gc σ q = 12) ∧
  (∀ i j, i < Tn → j < Tn → i ≠ j → mI μ 4 i = 5 → mI μ 4 j = 5 → mI μ 5 i ≠ -1 → mI μ 5 j ≠ -1 → rb μ i + rz μ i ≤ rb μ j ∨ rb μ j + rz μ j ≤ rb μ i) ∧
  (∀ i, i < Tn → mI μ 4 i = 5 → mI μ 5 i ≠ -1 → rb μ i + rz μ i ≤ Pn)
/-- SLOTS, the HELD one, what the maker counts -/
def GS (σ : Sg) (μ : Mu) (Tn Pn mc mk sa : Nat) : Prop := gi σ 300 mk = nI Tn ∧ gi σ 301 mk = nI Pn ∧ (∀ i, i < 256 → pr σ Tn (ap σ sa i) (mI μ 9 i)) ∧ pr σ Tn (gp σ 205 mc) (mS μ 813) ∧ pr σ Tn (gp σ 206 mc) (mS μ 825)
/-- the class's fixed objects -/
def GC (σ : Sg) (x pg mc mk sa ls f0 : Nat) : Prop := gc σ x = 8 ∧ gc σ mc = 3 ∧ gc σ pg = 6 ∧ gc σ mk = 4 ∧ gc σ ls = 1 ∧ gc σ sa = 12 ∧ gl σ sa = 256 ∧ gp σ 700 x = some pg ∧ gp σ 701 x = some mc ∧ gp σ 200 mc = some pg ∧ gp σ 201 mc = some mk ∧ gp σ 202 mc = some sa ∧ gp σ 203 mc = some f0 ∧ gp σ 500 pg = some ls
def GZ (σ : Sg) : Prop := ∀ a, gc σ a ≠ 0 → a < hs σ
/-- frames, as they are linked -/
def GF (σ : Sg) (Fr : Nat → Nat) (F : Nat) : Prop := F ≤ 200 ∧ (∀ i, i ≤ F → gc σ (Fr i) = 2 ∧ gi σ 101 (Fr i) = nI i ∧ gp σ 102 (Fr i) = (if i < F then some (Fr (i + 1)) else none)) ∧ (∀ i, i < F → gp σ 100 (Fr (i + 1)) = some (Fr i))
def nmT : List Nat := [0, 0, 2, 3, 3, 1, 1, 5, 1, 1, 5, 2, 7, 3, 1, 5, 1, 1, 3, 7, 3]
/-- whether an OP names a PART by a great letter -/
def nmd (o w : Nat) : Bool := (nmT.getD o 0).testBit w
def Nk (σ : Sg) (μ : Mu) (N b i : Nat) : Prop := gc σ b = 5 ∧ gi σ 400 b = nI i ∧ ∃ o, o ≤ 20 ∧ gi σ 401 b = nI o ∧ mI μ 1 i = nI o ∧ (o = 0 → gj σ 402 b = mJ μ 3 i) ∧ (o ≠ 0 → gi σ 403 b = mI μ 2 (3 * i) ∧ gi σ 404 b = mI μ 2 (3 * i + 1) ∧ gi σ 405 b = mI μ 2 (3 * i + 2) ∧ ∀ w, w < 3 → nmd o w = true → mI μ 2 (3 * i + w) = -1 ∨ ∃ j, j < N ∧ mI μ 2 (3 * i + w) = nI j)
/-- NODES -/
def GN (d : Dp) (σ : Sg) (μ : Mu) (N ls es : Nat) : Prop := N ≤ 512 ∧ mS μ 804 = nI N ∧ gi σ 2 ls = nI N ∧ gp σ 1 ls = some es ∧ ((gc σ es = 13 ∧ N ≤ gl σ es ∧ 10 ≤ gl σ es ∧ gl σ es ≤ 800) ∨ (N = 0 ∧ es = dfl d ∧ gc σ es = 14 ∧ gl σ es = 0)) ∧ (∀ i, i < N → ∃ b, ap σ es i = some b ∧ Nk σ μ N b i) ∧ (∀ o, o ≤ 20 → mI μ 0 o = nI (nmT.getD o 0))
/-- σ's cells stand in τ as they were -/
def Ex (σ τ : Sg) : Prop := hs σ ≤ hs τ ∧ ∀ a, gc σ a ≠ 0 → gc τ a = gc σ a ∧ (∀ f, gi τ f a = gi σ f a) ∧ (∀ f, gj τ f a = gj σ f a) ∧ (∀ f, gp τ f a = gp σ f a) ∧ gl τ a = gl σ a ∧ (∀ i, ap τ a i = ap σ a i)
theorem pr.mo {σ τ : Sg} {n m : Nat} {q : Option Nat} {v : Int32} (h : pr σ n q v) (hn : n ≤ m) (hg : ∀ a, gc σ a = 7 → gc τ a = 7 ∧ gi τ 600 a = gi σ 600 a) : pr τ m q v := by
  rcases h with h | ⟨a, j, h1, h2, h3, h4, h5⟩
  · exact Or.inl h
  · exact Or.inr ⟨a, j, h1, h2, by omega, (hg a h4).1, by rw [(hg a h4).2]; exact h5⟩
theorem pr.nl {σ : Sg} {n : Nat} : pr σ n none (-1) := Or.inl ⟨rfl, rfl⟩
theorem pr.n1 {σ : Sg} {n : Nat} {q : Option Nat} {v : Int32} (h : pr σ n q v) (hv : v = -1) (hn : n ≤ 60000) : q = none := by
  rcases h with h | ⟨a, j, h1, h2, h3, h4, h5⟩
  · exact h.2
  · exact absurd (h2.symm.trans hv) (nI_ne (by omega))
theorem pr.n2 {σ : Sg} {n : Nat} {q : Option Nat} {v : Int32} (h : pr σ n q v) (hq : q = none) : v = -1 := by
  rcases h with h | ⟨a, j, h1, h2, h3, h4, h5⟩
  · exact h.1
  · rw [hq] at h1; cases h1
