theorem gc_nw {σ : Sg} {cls : Nat} : gc (nw σ cls) (hs σ) = cls := by show (if hs σ = hs σ then cls else _) = _; simp
theorem gc_na {σ : Sg} {cls N : Nat} : gc (na σ cls N) (hs σ) = cls := by show (if hs σ = hs σ then cls else _) = _; simp
def b2 {α β γ : Type} (o : Option (α × β)) (f : α → β → Option γ) : Option γ := match o with
  | none => none
  | some (a, b) => f a b
def b4 {α β γ δ ε : Type} (o : Option (α × β × γ × δ)) (f : α → β → γ → δ → Option ε) : Option ε := match o with
  | none => none
  | some (a, b, c, d) => f a b c d
def bn {γ : Type} (x : Sg) (f : Sg → Option γ) : Option γ := f x
theorem nbn {γ : Type} {x : Sg} {f : Sg → Option γ} {v : γ} (h : bn x f = some v) : ∃ y, x = y ∧ f y = some v := ⟨x, rfl, h⟩
theorem lf2 {α β : Type} {a a' : α} {b b' : β} (h : some (a, b) = some (a', b')) : a = a' ∧ b = b' := by cases h; exact ⟨rfl, rfl⟩
theorem lf4 {α β γ δ : Type} {a a' : α} {b b' : β} {c c' : γ} {d d' : δ} (h : some (a, b, c, d) = some (a', b', c', d')) : a = a' ∧ b = b' ∧ c = c' ∧ d = d' := by cases h; exact ⟨rfl, rfl, rfl, rfl⟩
theorem nb2 {α β γ : Type} {o : Option (α × β)} {f : α → β → Option γ} {v : γ} (h : b2 o f = some v) : ∃ a b, o = some (a, b) ∧ f a b = some v := by
  cases o with
  | none => cases h
  | some x => exact ⟨x.1, x.2, rfl, h⟩
theorem nb4 {α β γ δ ε : Type} {o : Option (α × β × γ × δ)} {f : α → β → γ → δ → Option ε} {v : ε} (h : b4 o f = some v) : ∃ a b c d, o = some (a, b, c, d) ∧ f a b c d = some v := by
  cases o with
  | none => cases h
  | some x => exact ⟨x.1, x.2.1, x.2.2.1, x.2.2.2, rfl, h⟩
section B2
variable {p : Program} {l : Launch} {e : Env} {R : Room} {s : State} {m : MethodId} {args : Array Value} {below : List Frame} {meth : Method} {c : Code} {d : Dp} {A : Nat → Prop} {Q : State → Prop} {nL : Nat} {σ : Sg} {k n pc : Nat} {lv : List (Nat × Value)} {st : List Value} {own : String} {cc : ByteArray} {ret : Option FieldType}
theorem r_sub (ps : List Nat) {lv' : List (Nat × Value)} (hq : lv_pick lv ps = lv') (kk : Gk p l e R s m args below meth c d A Q nL σ k n pc lv' st) : Gk p l e R s m args below meth c d A Q nL σ k n pc lv st := fun H locs ls hH hS hP hl => kk H locs ls hH hS hP (lv_sub hl ps hq)
theorem r_nm {σ2 : Sg} (e1 : σ = σ2) (kk : Gk p l e R s m args below meth c d A Q nL σ2 k n pc lv st) : Gk p l e R s m args below meth c d A Q nL σ k n pc lv st := by subst e1; exact kk
theorem r_mmin (E : Ev p s m args meth c own cc nL ret d A) {ix : Nat} {x y : Int32} (hd : decode cc pc = .ok (.invokestatic ix, 3)) (w1 : Cond.methodLink own ix Lib.Math.min.name ∈ wsL_law) (w2 : Cond.static Lib.Math.min.name ∈ wsL_law) (w3 : Cond.initialized "java/lang/Math" ∈ wsL_law) (w4 : Cond.code Lib.Math.min.name Lib.Math.min.code 2 (some .int) ∈ wsL_law) (hR : 1 ≤ R.frames ∧ 21 ≤ R.locals) (hcat : (st.map fun v => v.category).sum ≤ 8) (h1 : k ≤ R.cells) (h2 : n ≤ R.slots) (kk : Gk p l e R s m args below meth c d A Q nL σ k n (pc + 3) lv (.int (if y < x then y else x) :: st)) : Gk p l e R s m args below meth c d A Q nL σ k n pc lv (.int y :: .int x :: st) := fun H locs ls hH hS hP hl => va_mmin E.x E.b (by rw [E.ml]; exact hl.1.symm) E.ow (E.ts _ w1) (E.ts _ w2) (E.ts _ w3) (E.ts _ w4) hR.1 (by have := hR.2; omega) h1 h2 hd (kk H locs ls hH hS hP hl)
theorem r_mmax (E : Ev p s m args meth c own cc nL ret d A) {ix : Nat} {x y : Int32} (hd : decode cc pc = .ok (.invokestatic ix, 3)) (w1 : Cond.methodLink own ix Lib.Math.max.name ∈ wsL_law) (w2 : Cond.static Lib.Math.max.name ∈ wsL_law) (w3 : Cond.initialized "java/lang/Math" ∈ wsL_law) (w4 : Cond.code Lib.Math.max.name Lib.Math.max.code 2 (some .int) ∈ wsL_law) (hR : 1 ≤ R.frames ∧ 21 ≤ R.locals) (hcat : (st.map fun v => v.category).sum ≤ 8) (h1 : k ≤ R.cells) (h2 : n ≤ R.slots) (kk : Gk p l e R s m args below meth c d A Q nL σ k n (pc + 3) lv (.int (if x < y then y else x) :: st)) : Gk p l e R s m args below meth c d A Q nL σ k n pc lv (.int y :: .int x :: st) := fun H locs ls hH hS hP hl => va_mmax E.x E.b (by rw [E.ml]; exact hl.1.symm) E.ow (E.ts _ w1) (E.ts _ w2) (E.ts _ w3) (E.ts _ w4) hR.1 (by have := hR.2; omega) h1 h2 hd (kk H locs ls hH hS hP hl)
theorem r_aastX (E : Ev p s m args meth c own cc nL ret d A) {a : Nat} {o o2 : Option Nat} {i : Int32} (hd : decode cc pc = .ok (.aastore, 1)) (ho : o = some a) (hg : gc σ a = 12) (hi : vp_in i (gl σ a)) (h2 : o2 = none ∨ gc σ (o2.getD 0) = 7) (kk : Gk p l e R s m args below meth c d A Q nL (wp σ a i.toNatClampNeg o2) k n (pc + 1) lv st) : Gk p l e R s m args below meth c d A Q nL σ k n pc lv (va_rf o2 :: .int i :: va_rf o :: st) := by
  cases o2 with
  | none => exact r_aastNT E hd ho hg hi rfl kk
  | some v =>
    have h3 : gc σ v = 7 := by
      rcases h2 with h | h
      · cases h
      · exact h
    exact r_aastT E hd ho hg hi rfl h3 kk
theorem r_castX (E : Ev p s m args meth c own cc nL ret d A) {ci ix N : Nat} {C : String} {T : u_T} {o : Option Nat} (hd : decode cc pc = .ok (.checkcast ix, 3)) (w1 : Cond.classLink own ix C ∈ wsL_law) (hc : vwCl[ci]? = some (C, T, N)) (hci : ci < 9) (h2 : o = none ∨ gc σ (o.getD 0) = ci + 1) (kk : Gk p l e R s m args below meth c d A Q nL σ k n (pc + 3) lv (va_rf o :: st)) : Gk p l e R s m args below meth c d A Q nL σ k n pc lv (va_rf o :: st) := by
  cases o with
  | none => exact r_castN E hd rfl kk
  | some v =>
    have h3 : gc σ v = ci + 1 := by
      rcases h2 with h | h
      · cases h
      · exact h
    exact r_cast E hd w1 hc hci rfl h3 kk
theorem r_alenX (E : Ev p s m args meth c own cc nL ret d A) {a : Nat} {o : Option Nat} (hd : decode cc pc = .ok (.arraylength, 1)) (ho : o = some a) (hg : gc σ a = 13 ∨ gc σ a = 14) (kk : Gk p l e R s m args below meth c d A Q nL σ k n (pc + 1) lv (.int (Int32.ofNat (gl σ a)) :: st)) : Gk p l e R s m args below meth c d A Q nL σ k n pc lv (va_rf o :: st) := by
  rcases hg with h | h
  · exact r_alenO E hd ho h kk
  · exact r_alenE E hd ho h kk
theorem r_ldcM (E : Ev p s m args meth c own cc nL ret d A) {ix : Nat} (hd : decode cc pc = .ok (.ldc ix, 2)) (w1 : Cond.classLink own ix "[Ljava/lang/Object;" ∈ wsL_law) (kk : Gk p l e R s m args below meth c d A Q nL σ k n (pc + 2) lv (va_rf (some (mir d)) :: st)) : Gk p l e R s m args below meth c d A Q nL σ k n pc lv st := fun H locs ls hH hS hP hl => va_ldcM E.x E.b E.ow (E.ts _ w1) E.K.2.2.2.1 hd (kk H locs ls hH hS hP hl)
end B2
