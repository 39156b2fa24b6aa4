/-! THE REFERENCE OVER Mu: ints by (array, index), longs by (array, index), scalars by field -/
abbrev Mu : Type := (Nat → Nat → Int32) × (Nat → Nat → Int64) × (Nat → Int32)
def mI (μ : Mu) : Nat → Nat → Int32 := μ.1
def mJ (μ : Mu) : Nat → Nat → Int64 := μ.2.1
def mS (μ : Mu) : Nat → Int32 := μ.2.2
def uI (μ : Mu) (k i : Nat) (v : Int32) : Mu := (u2 (mI μ) k i v, mJ μ, mS μ)
def uJ (μ : Mu) (k i : Nat) (v : Int64) : Mu := (mI μ, u2 (mJ μ) k i v, mS μ)
def uS (μ : Mu) (f : Nat) (v : Int32) : Mu := (mI μ, mJ μ, u1 (mS μ) f v)
def bm {γ : Type} (x : Mu) (f : Mu → Option γ) : Option γ := f x
theorem nbm {γ : Type} {x : Mu} {f : Mu → Option γ} {v : γ} (h : bm x f = some v) : ∃ y, x = y ∧ f y = some v := ⟨x, rfl, h⟩
def fA (k : Nat) : Nat := [800, 801, 802, 803, 805, 806, 807, 808, 810, 812, 814, 815, 816, 817].getD k 0
def sA (k : Nat) : Nat := [21, 4000, 12000, 4000, 50000, 50000, 50000, 50000, 20000, 256, 201, 201, 603, 201].getD k 0
def kA (k : Nat) : Nat := if k = 3 ∨ k = 7 ∨ k = 13 then 11 else 10
/-- the reference's shape, which stays -/
def MS (σ : Sg) (m : Nat) (ma : Nat → Nat) : Prop := gc σ m = 9 ∧ (∀ k, k < 14 → gp σ (fA k) m = some (ma k)) ∧ (∀ k, k < 14 → gc σ (ma k) = kA k) ∧ (∀ k, k < 14 → gl σ (ma k) = sA k) ∧ (∀ j k, j < 14 → k < 14 → ma j = ma k → j = k)
def Vw (σ : Sg) (m : Nat) (ma : Nat → Nat) : Mu := (fun k i => if k < 14 then ai σ (ma k) i else 0, fun k i => if k < 14 then aj σ (ma k) i else 0, fun f => gi σ f m)
/-- nothing but the reference's own has changed -/
def Fq (σ τ : Sg) : Prop := hs τ = hs σ ∧ gc τ = gc σ ∧ gj τ = gj σ ∧ gp τ = gp σ ∧ gl τ = gl σ ∧ ap τ = ap σ ∧ ∀ f, f < 800 → gi τ f = gi σ f
theorem Fq.rf (σ : Sg) : Fq σ σ := ⟨rfl, rfl, rfl, rfl, rfl, rfl, fun _ _ => rfl⟩
theorem Fq.tr {σ τ ρ : Sg} (h : Fq σ τ) (k : Fq τ ρ) : Fq σ ρ := ⟨k.1.trans h.1, k.2.1.trans h.2.1, k.2.2.1.trans h.2.2.1, k.2.2.2.1.trans h.2.2.2.1, k.2.2.2.2.1.trans h.2.2.2.2.1, k.2.2.2.2.2.1.trans h.2.2.2.2.2.1, fun f hf => (k.2.2.2.2.2.2 f hf).trans (h.2.2.2.2.2.2 f hf)⟩
theorem pr3 {α β γ : Type} {a a' : α} {b b' : β} {c c' : γ} (h1 : a = a') (h2 : b = b') (h3 : c = c') : (a, b, c) = (a', b', c') := by subst h1; subst h2; subst h3; rfl
section MSL
variable {σ σ' : Sg} {m : Nat} {ma : Nat → Nat} {μ' : Mu}
theorem MS.g (M : MS σ m ma) : gc σ m = 9 := M.1
theorem MS.p (M : MS σ m ma) (k : Nat) (hk : k < 14) : gp σ (fA k) m = some (ma k) := M.2.1 k hk
theorem MS.c (M : MS σ m ma) (k : Nat) (hk : k < 14) : gc σ (ma k) = kA k := M.2.2.1 k hk
theorem MS.b (M : MS σ m ma) (k : Nat) (hk : k < 14) {i : Int32} {N : Nat} (h : ¬ (i < 0 ∨ sA k ≤ N)) : ¬ (i < 0 ∨ gl σ (ma k) ≤ N) := by rw [M.2.2.2.1 k hk]; exact h
theorem MS.upS (M : MS σ m ma) {f : Nat} {v : Int32} (hf : 800 ≤ f) (es : si σ f m v = σ') (em : uS (Vw σ m ma) f v = μ') : MS σ' m ma ∧ Vw σ' m ma = μ' ∧ Fq σ σ' := by
  subst es
  subst em
  refine ⟨⟨M.1, M.2.1, M.2.2.1, M.2.2.2.1, M.2.2.2.2⟩, ?_, rfl, rfl, rfl, rfl, rfl, rfl, fun f2 h2 => ?_⟩
  · show (_, _, _) = (_, _, _)
    refine pr3 rfl rfl ?_
    funext g
    show (if g = f ∧ m = m then v else gi σ g m) = (if g = f then v else gi σ g m)
    simp
  · funext b
    show (if f2 = f ∧ b = m then v else gi σ f2 b) = gi σ f2 b
    rw [if_neg (fun h => by omega)]
theorem MS.upI (M : MS σ m ma) {k i : Nat} {v : Int32} (hk : k < 14) (es : wi σ (ma k) i v = σ') (em : uI (Vw σ m ma) k i v = μ') : MS σ' m ma ∧ Vw σ' m ma = μ' ∧ Fq σ σ' := by
  subst es
  subst em
  refine ⟨⟨M.1, M.2.1, M.2.2.1, M.2.2.2.1, M.2.2.2.2⟩, ?_, rfl, rfl, rfl, rfl, rfl, rfl, fun f2 h2 => rfl⟩
  refine pr3 ?_ rfl rfl
  funext j x
  show (if j < 14 then (if ma j = ma k ∧ x = i then v else ai σ (ma j) x) else 0) = (if j = k ∧ x = i then v else (if j < 14 then ai σ (ma j) x else 0))
  by_cases hj : j < 14
  · rw [if_pos hj, if_pos hj]
    by_cases hjk : j = k
    · subst hjk
      simp
    · rw [if_neg (fun h => hjk (M.2.2.2.2 j k hj hk h.1)), if_neg (fun h => hjk h.1)]
  · rw [if_neg hj, if_neg hj, if_neg (fun h => hj (by omega))]
theorem MS.upJ (M : MS σ m ma) {k i : Nat} {v : Int64} (hk : k < 14) (es : wj σ (ma k) i v = σ') (em : uJ (Vw σ m ma) k i v = μ') : MS σ' m ma ∧ Vw σ' m ma = μ' ∧ Fq σ σ' := by
  subst es
  subst em
  refine ⟨⟨M.1, M.2.1, M.2.2.1, M.2.2.2.1, M.2.2.2.2⟩, ?_, rfl, rfl, rfl, rfl, rfl, rfl, fun f2 h2 => rfl⟩
  refine pr3 rfl ?_ rfl
  funext j x
  show (if j < 14 then (if ma j = ma k ∧ x = i then v else aj σ (ma j) x) else 0) = (if j = k ∧ x = i then v else (if j < 14 then aj σ (ma j) x else 0))
  by_cases hj : j < 14
  · rw [if_pos hj, if_pos hj]
    by_cases hjk : j = k
    · subst hjk
      simp
    · rw [if_neg (fun h => hjk (M.2.2.2.2 j k hj hk h.1)), if_neg (fun h => hjk h.1)]
  · rw [if_neg hj, if_neg hj, if_neg (fun h => hj (by omega))]
end MSL
section GL
variable {α β γ : Type} {r : α} {P : Sg → Prop}
theorem gck {c : Prop} [Decidable c] {e : Option (α × Sg)} (hc : c) (h : ∃ t, e = some (r, t) ∧ P t) : ∃ t, (if c then e else none) = some (r, t) ∧ P t := by rw [if_pos hc]; exact h
theorem git {c : Prop} [Decidable c] {e e2 : Option (α × Sg)} (hc : c) (h : ∃ t, e = some (r, t) ∧ P t) : ∃ t, (if c then e else e2) = some (r, t) ∧ P t := by rw [if_pos hc]; exact h
theorem gif {c : Prop} [Decidable c] {e e2 : Option (α × Sg)} (hc : ¬ c) (h : ∃ t, e2 = some (r, t) ∧ P t) : ∃ t, (if c then e else e2) = some (r, t) ∧ P t := by rw [if_neg hc]; exact h
theorem gnn {o : Option β} {a : β} {f : β → Option (α × Sg)} (ho : o = some a) (h : ∃ t, f a = some (r, t) ∧ P t) : ∃ t, o.bind f = some (r, t) ∧ P t := by subst ho; exact h
theorem gbn {x : Sg} {f : Sg → Option (α × Sg)} (h : ∀ y, x = y → ∃ t, f y = some (r, t) ∧ P t) : ∃ t, bn x f = some (r, t) ∧ P t := h x rfl
theorem gb2 {o : Option (β × Sg)} {b : β} {s : Sg} {f : β → Sg → Option (α × Sg)} (ho : o = some (b, s)) (h : ∃ t, f b s = some (r, t) ∧ P t) : ∃ t, b2 o f = some (r, t) ∧ P t := by subst ho; exact h
end GL
