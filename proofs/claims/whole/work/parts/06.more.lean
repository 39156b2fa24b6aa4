theorem gc_nw {σ : Sg} {cls : Nat} : gc (nw σ cls) (hs σ) = cls := by show (if hs σ = hs σ then cls else _) = _; simp
theorem gc_na {σ : Sg} {cls N : Nat} : gc (na σ cls N) (hs σ) = cls := by show (if hs σ = hs σ then cls else _) = _; simp
def b2 {α β γ : Type} (o : Option (α × β)) (f : α → β → Option γ) : Option γ := match o with
  | none => none
  | some (a, b) => f a b
def b4 {α β γ δ ε : Type} (o : Option (α × β × γ × δ)) (f : α → β → γ → δ → Option ε) : Option ε := match o with
  | none => none
  | some (a, b, c, d) => f a b c d
def bn {γ : Type} (x : Sg) (f : Sg → Option γ) : Option γ := f x
theorem nbn {γ : Type} {x : Sg} {f : Sg → Option γ} {v : γ} (h : bn x f = some v) : ∃ y, x = y ∧ f y = some v := ⟨x, rfl, h⟩
theorem lf2 {α β : Type} {a a' : α} {b b' : β} (h : some (a, b) = some (a', b')) : a = a' ∧ b = b' := by cases h; exact ⟨rfl, rfl⟩
theorem lf4 {α β γ δ : Type} {a a' : α} {b b' : β} {c c' : γ} {d d' : δ} (h : some (a, b, c, d) = some (a', b', c', d')) : a = a' ∧ b = b' ∧ c = c' ∧ d = d' := by cases h; exact ⟨rfl, rfl, rfl, rfl⟩
theorem nb2 {α β γ : Type} {o : Option (α × β)} {f : α → β → Option γ} {v : γ} (h : b2 o f = some v) : ∃ a b, o = some (a, b) ∧ f a b = some v := by
  cases o with
  | none => cases h
  | some x => exact ⟨x.1, x.2, rfl, h⟩
theorem nb4 {α β γ δ ε : Type} {o : Option (α × β × γ × δ)} {f : α → β → γ → δ → Option ε} {v : ε} (h : b4 o f = some v) : ∃ a b c d, o = some (a, b, c, d) ∧ f a b c d = some v := by
  cases o with
  | none => cases h
  | some x => exact ⟨x.1, x.2.1, x.2.2.1, x.2.2.2, rfl, h⟩
section B2
variable {p : Program} {l : Launch} {e : Env} {R : Room} {s : State} {m : MethodId} {args : Array Value} {below : List Frame} {meth : Method} {c : Code} {d : Dp} {A : Nat → Prop} {Q : State → Prop} {nL : Nat} {σ : Sg} {k n pc : Nat} {lv : List (Nat × Value)} {st : List Value} {own : String} {cc : ByteArray} {ret : Option FieldType}
theorem r_sub (ps : List Nat) {lv' : List (Nat × Value)} (hq : lv_pick lv ps = lv') (kk : Gk p l e R s m args below meth c d A Q nL σ k n pc lv' st) : Gk p l e R s m args below meth c d A Q nL σ k n pc lv st := fun H locs ls hH hS hP hl => kk H locs ls hH hS hP (lv_sub hl ps hq)
theorem r_nm {σ2 : Sg} (e1 : σ = σ2) (kk : Gk p l e R s m args below meth c d A Q nL σ2 k n pc lv st) : Gk p l e R s m args below meth c d A Q nL σ k n pc lv st := by subst e1; exact kk
theorem r_mmin (E : Ev p s m args meth c own cc nL ret d A) {ix : Nat} {x y : Int32} (hd : decode cc pc = .ok (.invokestatic ix, 3)) (w1 : Cond.methodLink own ix Lib.Math.min.name ∈ wsL_law) (w2 : Cond.static Lib.Math.min.name ∈ wsL_law) (w3 : Cond.initialized "java/lang/Math" ∈ wsL_law) (w4 : Cond.code Lib.Math.min.name Lib.Math.min.code 2 (some .int) ∈ wsL_law) (hR : 1 ≤ R.frames ∧ 21 ≤ R.locals) (hcat : (st.map fun v => v.category).sum ≤ 8) (h1 : k ≤ R.cells) (h2 : n ≤ R.slots) (kk : Gk p l e R s m args below meth c d A Q nL σ k n (pc + 3) lv (.int (if y < x then y else x) :: st)) : Gk p l e R s m args below meth c d A Q nL σ k n pc lv (.int y :: .int x :: st) := fun H locs ls hH hS hP hl => va_mmin E.x E.b (by rw [E.ml]; exact hl.1.symm) E.ow (E.ts _ w1) (E.ts _ w2) (E.ts _ w3) (E.ts _ w4) hR.1 (by have := hR.2; omega) h1 h2 hd (kk H locs ls hH hS hP hl)
theorem r_mmax (E : Ev p s m args meth c own cc nL ret d A) {ix : Nat} {x y : Int32} (hd : decode cc pc = .ok (.invokestatic ix, 3)) (w1 : Cond.methodLink own ix Lib.Math.max.name ∈ wsL_law) (w2 : Cond.static Lib.Math.max.name ∈ wsL_law) (w3 : Cond.initialized "java/lang/Math" ∈ wsL_law) (w4 : Cond.code Lib.Math.max.name Lib.Math.max.code 2 (some .int) ∈ wsL_law) (hR : 1 ≤ R.frames ∧ 21 ≤ R.locals) (hcat : (st.map fun v => v.category).sum ≤ 8) (h1 : k ≤ R.cells) (h2 : n ≤ R.slots) (kk : Gk p l e R s m args below meth c d A Q nL σ k n (pc + 3) lv (.int (if x < y then y else x) :: st)) : Gk p l e R s m args below meth c d A Q nL σ k n pc lv (.int y :: .int x :: st) := fun H locs ls hH hS hP hl => va_mmax E.x E.b (by rw [E.ml]; exact hl.1.symm) E.ow (E.ts _ w1) (E.ts _ w2) (E.ts _ w3) (E.ts _ w4) hR.1 (by have := hR.2; omega) h1 h2 hd (kk H locs ls hH hS hP hl)
theorem r_aastX (E : Ev p s m args meth c own cc nL ret d A) {a : Nat} {o o2 : Option Nat} {i : Int32} (hd : decode cc pc = .ok (.aastore, 1)) (ho : o = some a) (hg : gc σ a = 12) (hi : vp_in i (gl σ a)) (h2 : o2 = none ∨ gc σ (o2.getD 0) = 7) (kk : Gk p l e R s m args below meth c d A Q nL (wp σ a i.toNatClampNeg o2) k n (pc + 1) lv st) : Gk p l e R s m args below meth c d A Q nL σ k n pc lv (va_rf o2 :: .int i :: va_rf o :: st) := by
  cases o2 with
  | none => exact r_aastNT E hd ho hg hi rfl kk
  | some v =>
    have h3 : gc σ v = 7 := by
      rcases h2 with h | h
      · cases h
      · exact h
    exact r_aastT E hd ho hg hi rfl h3 kk
theorem r_castX (E : Ev p s m args meth c own cc nL ret d A) {ci ix N : Nat} {C : String} {T : u_T} {o : Option Nat} (hd : decode cc pc = .ok (.checkcast ix, 3)) (w1 : Cond.classLink own ix C ∈ wsL_law) (hc : vwCl[ci]? = some (C, T, N)) (hci : ci < 9) (h2 : o = none ∨ gc σ (o.getD 0) = ci + 1) (kk : Gk p l e R s m args below meth c d A Q nL σ k n (pc + 3) lv (va_rf o :: st)) : Gk p l e R s m args below meth c d A Q nL σ k n pc lv (va_rf o :: st) := by
  cases o with
  | none => exact r_castN E hd rfl kk
  | some v =>
    have h3 : gc σ v = ci + 1 := by
      rcases h2 with h | h
      · cases h
      · exact h
    exact r_cast E hd w1 hc hci rfl h3 kk
theorem r_alenX (E : Ev p s m args meth c own cc nL ret d A) {a : Nat} {o : Option Nat} (hd : decode cc pc = .ok (.arraylength, 1)) (ho : o = some a) (hg : gc σ a = 13 ∨ gc σ a = 14) (kk : Gk p l e R s m args below meth c d A Q nL σ k n (pc + 1) lv (.int (Int32.ofNat (gl σ a)) :: st)) : Gk p l e R s m args below meth c d A Q nL σ k n pc lv (va_rf o :: st) := by
  rcases hg with h | h
  · exact r_alenO E hd ho h kk
  · exact r_alenE E hd ho h kk
theorem r_ldcM (E : Ev p s m args meth c own cc nL ret d A) {ix : Nat} (hd : decode cc pc = .ok (.ldc ix, 2)) (w1 : Cond.classLink own ix "[Ljava/lang/Object;" ∈ wsL_law) (kk : Gk p l e R s m args below meth c d A Q nL σ k n (pc + 2) lv (va_rf (some (mir d)) :: st)) : Gk p l e R s m args below meth c d A Q nL σ k n pc lv st := fun H locs ls hH hS hP hl => va_ldcM E.x E.b E.ow (E.ts _ w1) E.K.2.2.2.1 hd (kk H locs ls hH hS hP hl)
theorem r_getC (E : Ev p s m args meth c own cc nL ret d A) {a ix : Nat} {o : Option Nat} (hd : decode cc pc = .ok (.invokevirtual ix, 3)) (w1 : Cond.methodLink own ix gcn ∈ wsL_law) (w2 : Cond.selects "[Ljava/lang/Object;" gcn gcn ∈ wsL_law) (w3 : Cond.instanceMethod gcn ∈ wsL_law) (w4 : Cond.native gcn ∈ wsL_law) (ho : o = some a) (hg : gc σ a = 13) (hR : 1 ≤ R.frames ∧ 22 ≤ R.locals) (hcat : (st.map fun v => v.category).sum ≤ 8) (kk : Gk p l e R s m args below meth c d A Q nL σ k n (pc + 3) lv (va_rf (some (mir d)) :: st)) : Gk p l e R s m args below meth c d A Q nL σ k n pc lv (va_rf o :: st) := fun H locs ls hH hS hP hl => by
  subst ho
  have c0 := hH.arr (a := a) (by omega)
  rw [hg] at c0
  have h4 := va_nmO (nm := "[Ljava/lang/Object;") (E.K.1.2 3 _ rfl).2 (by decide)
  exact va_getC E.x E.b (by rw [E.ml]; exact hl.1.symm) E.ow (E.ts _ w1) E.K.2.2.2.2.1.use (E.ts _ w2) (E.ts _ w3) (E.ts _ w4) E.K.2.2.2.1 ⟨_, c0, rfl, h4⟩ hR.1 (by have := hR.2; omega) hd (kk H locs ls hH hS hP hl)
theorem obj_known (E : Ev p s m args meth c own cc nL ret d A) : ∀ comp : ClassId, s.vm.findClass "java/lang/Object" = some comp → ∃ kC : Class, s.vm.classes[comp]? = some kC := fun comp h => by
  obtain ⟨k, hk, -⟩ := Vm.findClass_spec h
  exact ⟨k, hk⟩
abbrev Ac_Nodes (σ : Sg) (a N : Nat) : Prop := ∀ i, i < N → (ap σ a i = none ∨ gc σ ((ap σ a i).getD 0) = 5)
theorem toN_i {z : Int32} (hz : ¬ z < 0) : z.toInt = (z.toNatClampNeg : Int) := by
  have hz0 : (0 : Int) ≤ z.toInt := by
    have := Int32.not_lt.mp hz
    simpa using Int32.le_iff_toInt_le.mp this
  show z.toInt = ((z.toInt.toNat : Nat) : Int)
  omega
theorem r_copy (E : Ev p s m args meth c own cc nL ret d A) {a0 a ix : Nat} {o1 o2 : Option Nat} {n0 : Int32} (hd : decode cc pc = .ok (.invokestatic ix, 3)) (w1 : Cond.methodLink own ix arraycopyName ∈ wsL_law) (w2 : Cond.native arraycopyName ∈ wsL_law) (w3 : Cond.static arraycopyName ∈ wsL_law) (w4 : Cond.initialized "java/lang/System" ∈ wsL_law) (ho1 : o1 = some a0) (hg1 : gc σ a0 = 13) (ho2 : o2 = some a) (hg2 : gc σ a = 13) (h3 : ¬ n0 < 0) (h45 : n0.toNatClampNeg ≤ gl σ a0 ∧ n0.toNatClampNeg ≤ gl σ a) (hel : Ac_Nodes σ a0 n0.toNatClampNeg) (hR : 1 ≤ R.frames ∧ 60 ≤ R.locals) (hcat : (st.map fun v => v.category).sum ≤ 8) (kk : Gk p l e R s m args below meth c d A Q nL (wr σ a (va_cpy (ap σ a0) (ap σ a) 0 0 n0.toNatClampNeg)) k n (pc + 3) lv st) : Gk p l e R s m args below meth c d A Q nL σ k n pc lv (.int n0 :: .int 0 :: va_rf o2 :: .int 0 :: va_rf o1 :: st) := fun H locs ls hH hS hP hl => by
  subst ho1
  subst ho2
  have c0 := hH.arr (a := a0) (by omega)
  have c1 := hH.arr (a := a) (by omega)
  rw [hg1] at c0
  rw [hg2] at c1
  obtain ⟨kA, comp, r1, r2, r3, -⟩ := (E.K.1.2 3 _ rfl).2
  have hcls := (E.K.1.1 4 _ rfl).2
  obtain ⟨kV, hkV, -⟩ := hcls.2
  obtain ⟨kE, hkE, -⟩ := Vm.findClass_spec r3
  obtain ⟨cN, t0, f1, f2, f3⟩ := Cond.castable_spec (va_Nw.use (A := args) rfl E.K.2.2.2.2.2.2.2)
  have e7 : cN = d.1.1 4 := Option.some.inj (f1.symm.trans hcls.1)
  have e8 : t0 = comp := Option.some.inj (f2.symm.trans r3)
  subst e7
  subst e8
  intro T hT X
  have hz : ((0 : Int32).toNatClampNeg) = 0 := by decide
  have hz2 : (0 : Int32).toInt = 0 := by decide
  obtain ⟨vm', X', step⟩ := X.arraycopy E.x E.ow (E.ts _ w1) (E.ts _ w2) (E.ts _ w3) (E.ts _ w4) (src := a0) (dst := a) (cs := vp_cell (cA d 13) (ac 13 σ a0)) (cd := vp_cell (cA d 13) (ac 13 σ a)) (srcPos := 0) (destPos := 0) (n := n0) (by rw [hT]; exact c0) (by rw [hT]; exact c1)
    (fun _ h => by cases h) (fun _ h => by cases h) (fun h => by cases h) (fun h => by cases h) r1 r1 r2 r2 rfl (by decide) (by decide) h3
    (by rw [toN_i h3, hz2]; show ¬ _ > ((arrV (cA d 13) (gl σ a0) (fun j => va_rf (ap σ a0 j))).slots.size : Int); rw [arrV_size]; omega)
    (by rw [toN_i h3, hz2]; show ¬ _ > ((arrV (cA d 13) (gl σ a) (fun j => va_rf (ap σ a j))).slots.size : Int); rw [arrV_size]; omega)
    (fun vm₁ hal i hi => by
      have e : (vp_cell (cA d 13) (ac 13 σ a0)).slots.getD ((0 : Int32).toNatClampNeg + i) .null = va_rf (ap σ a0 i) := by
        rw [hz, Nat.zero_add]
        show (arrV (cA d 13) (gl σ a0) (fun j => va_rf (ap σ a0 j))).slots.getD _ _ = _
        rw [Array.getD_eq_getD_getElem?, arrV_read _ _ (by omega)]
        rfl
      rw [e]
      have hy := hel i hi
      cases hq : ap σ a0 i with
      | none => exact ⟨rfl, trivial⟩
      | some y =>
        rw [hq] at hy
        have hgy : gc σ y = 5 := by
          rcases hy with hy | hy
          · cases hy
          · exact hy
        obtain ⟨r', hr', cellV, g1, g2, g3, -⟩ := (hH.2 y (by omega)).2.1 4 hgy (by omega)
        obtain ⟨kV', hkV', -⟩ := hal.2.2 _ _ hkV
        obtain ⟨kE', hkE', -⟩ := hal.2.2 _ _ hkE
        refine ⟨rfl, cellV, (show T.heap[y]? = some cellV by rw [hT]; exact g1), (fun q h => by rw [h] at g3; cases g3), ⟨kV', by rw [g2]; exact hkV'⟩, ⟨kE', hkE'⟩, ?_⟩
        show vm₁.assignable _ _ = true
        rw [hal.assignable, g2]
        exact f3)
    (g := F0 m pc ls (.int n0 :: .int 0 :: .ref a :: .int 0 :: .ref a0 :: st)) rfl (by rw [E.ml]; exact hl.1) (rest := st) rfl (by rw [E.b]; exact hd) hR.1 (by have hw : nativeFrameWords "java/lang/System" "arraycopy" 5 ≤ 30 := (by decide); show 2 * 0 + _ + _ ≤ _; have := hR.2; omega)
  have e1 : copied (vp_cell (cA d 13) (ac 13 σ a0)) (vp_cell (cA d 13) (ac 13 σ a)) 0 0 n0 = vp_cell (cA d 13) (gl σ a, .inr (.inr (.inr (.inr (va_cpy (ap σ a0) (ap σ a) 0 0 n0.toNatClampNeg))))) := by
    have h6 := va_copied (n1 := gl σ a) (sp := 0) (dp := 0) (fun z => va_rf z) (cA d 13) (cA d 13) (ap σ a0) (ap σ a) (n0 := gl σ a0) (n := n0.toNatClampNeg) (by omega)
    exact h6
  rw [e1] at X' step
  have hlt : a < H.size := (Array.getElem?_eq_some_iff.mp c1).1
  have hHn : HW d (wr σ a (va_cpy (ap σ a0) (ap σ a) 0 0 n0.toNatClampNeg)) (H.setIfInBounds a (vp_cell (cA d 13) (gl σ a, .inr (.inr (.inr (.inr (va_cpy (ap σ a0) (ap σ a) 0 0 n0.toNatClampNeg))))))) := by
    refine hH.up (a := a) rfl rfl (by simp) (fun q hq => by simp [Array.getElem?_setIfInBounds, Ne.symm hq]) (fun _ _ _ => rfl) (fun b hb c => ac_wr hb c) ⟨fun ci2 hc2 hci2 => ?_, fun hc2 => xc_of (show gc σ a ≠ 14 by omega) ?_⟩
    · have hc3 : gc σ a = ci2 + 1 := hc2
      omega
    · show _ = some (vp_cell (cA d (gc σ a)) (ac (gc σ a) (wr σ a _) a))
      rw [hg2]
      have e9 : ap (wr σ a (va_cpy (ap σ a0) (ap σ a) 0 0 n0.toNatClampNeg)) a = va_cpy (ap σ a0) (ap σ a) 0 0 n0.toNatClampNeg := by show (if a = a then _ else _) = _; simp
      show _ = some (vp_cell (cA d 13) (gl σ a, .inr (.inr (.inr (.inr (ap (wr σ a _) a))))))
      rw [e9]
      simp [Array.getElem?_setIfInBounds, hlt]
  have hSn : va_S A s.heap (H.setIfInBounds a (vp_cell (cA d 13) (gl σ a, .inr (.inr (.inr (.inr (va_cpy (ap σ a0) (ap σ a) 0 0 n0.toNatClampNeg))))))) (locs ++ ((vp_cell (cA d 13) (ac 13 σ a0)).stretch (0 : Int32).toNatClampNeg n0.toNatClampNeg).zipIdx.map fun q => ⟨a, (0 : Int32).toNatClampNeg + q.2⟩) := by
    refine ⟨by simp; exact hS.1, fun q g1 g2 => ?_, fun q hq => ?_⟩
    · have hne : q ≠ a := fun h => g2 (by rw [h]; exact hP a (by omega) (by omega))
      rw [show (H.setIfInBounds a (vp_cell (cA d 13) (gl σ a, .inr (.inr (.inr (.inr (va_cpy (ap σ a0) (ap σ a) 0 0 n0.toNatClampNeg)))))))[q]? = H[q]? by simp [Array.getElem?_setIfInBounds, Ne.symm hne]]
      exact hS.2.1 q g1 g2
    · rcases List.mem_append.mp hq with h | h
      · exact hS.2.2 q h
      · obtain ⟨z, -, hz⟩ := List.mem_map.mp h
        rw [← hz]
        exact hP a (by omega) (by omega)
  obtain ⟨t, a1, b1⟩ := kk _ _ ls hHn hSn (fun b h1 h2 => hP b h1 h2) hl _ (by rw [← hT]; rfl) X'
  exact ⟨t, step t a1, b1⟩
end B2
