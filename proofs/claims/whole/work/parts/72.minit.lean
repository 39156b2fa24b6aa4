section MINIT
variable {d : Dp} {σ τ ρ : Sg} {μ ν : Mu} {x m h pg mc mk sa ls es es' L : Nat} {ma : Nat → Nat} {Fr Fr' : Nat → Nat} {F N N' Tn Tm Pn Pm : Nat} {xs : Nat → Int32}
/-- numbers laid into an array from place i on -/
def wl : List Int32 → Sg → Nat → Nat → Sg
  | [], σ, _, _ => σ
  | v :: l, σ, a, i => wl l (wi σ a i v) a (i + 1)
theorem wl_hs : ∀ (l : List Int32) (σ : Sg) (a i : Nat), hs (wl l σ a i) = hs σ
  | [], _, _, _ => rfl
  | _ :: l, σ, a, i => (wl_hs l _ a (i + 1)).trans rfl
theorem wl_gc (y : Nat) : ∀ (l : List Int32) (σ : Sg) (a i : Nat), gc (wl l σ a i) y = gc σ y
  | [], _, _, _ => rfl
  | _ :: l, σ, a, i => (wl_gc y l _ a (i + 1)).trans rfl
theorem wl_gl (y : Nat) : ∀ (l : List Int32) (σ : Sg) (a i : Nat), gl (wl l σ a i) y = gl σ y
  | [], _, _, _ => rfl
  | _ :: l, σ, a, i => (wl_gl y l _ a (i + 1)).trans rfl
theorem wl_gi (f y : Nat) : ∀ (l : List Int32) (σ : Sg) (a i : Nat), gi (wl l σ a i) f y = gi σ f y
  | [], _, _, _ => rfl
  | _ :: l, σ, a, i => (wl_gi f y l _ a (i + 1)).trans rfl
theorem wl_gp (f y : Nat) : ∀ (l : List Int32) (σ : Sg) (a i : Nat), gp (wl l σ a i) f y = gp σ f y
  | [], _, _, _ => rfl
  | _ :: l, σ, a, i => (wl_gp f y l _ a (i + 1)).trans rfl
theorem wl_lo (a j : Nat) : ∀ (l : List Int32) (σ : Sg) (i : Nat), j < i → ai (wl l σ a i) a j = ai σ a j
  | [], _, _, _ => rfl
  | v :: l, σ, i, h => (wl_lo a j l _ (i + 1) (by omega)).trans (by rw [q_ai_wi, if_neg (by omega)])
theorem wl_ai (a : Nat) : ∀ (l : List Int32) (σ : Sg) (i j : Nat), j < l.length → ai (wl l σ a i) a (i + j) = l.getD j 0
  | [], _, _, _, h => by simp at h
  | v :: l, σ, i, 0, _ => (wl_lo a i l _ (i + 1) (by omega)).trans (by rw [q_ai_wi, if_pos ⟨rfl, rfl⟩]; rfl)
  | v :: l, σ, i, j + 1, h => by
    have q := wl_ai a l (wi σ a i v) (i + 1) j (by simpa using h)
    rw [show i + (j + 1) = i + 1 + j by omega]
    exact q.trans rfl
theorem wl_fz : ∀ (l : List Int32) (τ : Sg) (a i : Nat), Fz σ τ → Fz σ (wl l τ a i)
  | [], _, _, _, h => h
  | _ :: l, τ, a, i, h => wl_fz l _ a (i + 1) h.wi
def nmL : List Int32 := [0, 0, 2, 3, 3, 1, 1, 5, 1, 1, 5, 2, 7, 3, 1, 5, 1, 1, 3, 7, 3]
theorem nmL_T : ∀ o, o < 21 → nmL.getD o 0 = nI (nmT.getD o 0) := by decide
/-- the reference with j arrays, g its numbers -/
def MJ (τ σ : Sg) (m j : Nat) (g : Nat → Int32) : Prop := gc σ m = 9 ∧ hs σ = m + 1 + j ∧ (∀ f, gi σ f m = g f) ∧ (∀ k, k < j → gp σ (fA k) m = some (m + 1 + k) ∧ gc σ (m + 1 + k) = kA k ∧ gl σ (m + 1 + k) = sA k) ∧ (∀ o, o < 21 → ai σ (m + 1) o = nI (nmT.getD o 0)) ∧ Fz τ σ ∧ hs τ = m
theorem fA_in0 : ∀ j, j < 14 → ∀ k, k < 14 → fA j = fA k → j = k := by decide
theorem fA_in (j k : Nat) (hj : j < 14) (hk : k < 14) (e : fA j = fA k) : j = k := fA_in0 j hj k hk e
theorem MJ.c1 {j c n : Nat} {g : Nat → Int32} (M : MJ τ σ m j g) : gc (na σ c n) m = 9 := by
  rw [q_gc_na, if_neg (by rw [M.2.1]; omega)]
  exact M.1
theorem MJ.c2 {j c n c' n' : Nat} {g : Nat → Int32} (M : MJ τ σ m j g) : gc (na (na σ c n) c' n') m = 9 := by
  rw [q_gc_na, q_hs_na, if_neg (by rw [M.2.1]; omega)]
  exact M.c1
theorem MJ.add {j c n f : Nat} {g : Nat → Int32} (M : MJ τ σ m j g) (h1 : 1 ≤ j) (hj : j < 14) (hc : kA j = c) (hn : sA j = n) (hf : fA j = f) : MJ τ (sp (na σ c n) f m (some (m + 1 + j))) m (j + 1) g := by
  obtain ⟨m1, m2, m3, m4, m5, m6, m7⟩ := id M
  subst hc
  subst hn
  subst hf
  refine ⟨M.c1 (c := kA j) (n := sA j), by rw [q_hs_sp, q_hs_na, m2]; omega, m3, fun k hk => ?_, fun o ho => ?_, (m6.na ?_).sp (by omega), m7⟩
  · rw [q_gp_sp, q_gc_sp, q_gl_sp, q_gc_na, q_gl_na, m2]
    by_cases e : k = j
    · subst e
      rw [if_pos ⟨rfl, rfl⟩, if_pos rfl, if_pos rfl]
      exact ⟨rfl, rfl, rfl⟩
    · rw [if_neg (fun q => e (fA_in k j (by omega) hj q.1)), if_neg (by omega), if_neg (by omega)]
      exact m4 k (by omega)
  · rw [q_ai_sp, q_ai_na, if_neg (by rw [m2]; omega)]
    exact m5 o ho
  · unfold kA
    split <;> omega
theorem MJ.si {j f : Nat} {v : Int32} {g : Nat → Int32} (M : MJ τ σ m j g) : MJ τ (si σ f m v) m j (fun q => if q = f then v else g q) := by
  obtain ⟨m1, m2, m3, m4, m5, m6, m7⟩ := M
  refine ⟨m1, m2, fun q => ?_, m4, m5, m6.si (by omega), m7⟩
  show _ = if q = f then v else g q
  rw [q_gi_si]
  by_cases e : q = f
  · rw [if_pos ⟨e, rfl⟩, if_pos e]
  · rw [if_neg (fun z => e z.1), if_neg e]
    exact m3 q
theorem MJ.two {j c n f c' n' f' : Nat} {g : Nat → Int32} (M : MJ τ σ m j g) (h1 : 1 ≤ j) (hj : j + 1 < 14) (hc : kA j = c) (hn : sA j = n) (hf : fA j = f) (hc' : kA (j + 1) = c') (hn' : sA (j + 1) = n') (hf' : fA (j + 1) = f') : MJ τ (sp (na (sp (na σ c n) f m (some (hs σ))) c' n') f' m (some (hs σ + 1))) m (j + 2) g := by
  have a := (M.add h1 (by omega) hc hn hf).add (by omega) hj hc' hn' hf'
  rw [M.2.1]
  exact a
theorem bn_go {γ : Type} {X : Sg} {f : Sg → Option γ} {P : Sg → Prop} {Q : Option γ → Prop} (hX : P X) (h : ∀ s, P s → Q (f s)) : Q (bn X f) := h X hX
/-- an array's first n places -1 -/
def wm : Nat → Sg → Nat → Sg
  | 0, σ, _ => σ
  | n + 1, σ, a => wi (wm n σ a) a n (-1)
theorem wm_0 (a : Nat) : wm 0 σ a = σ := rfl
theorem wm_hs (a : Nat) : ∀ n, hs (wm n σ a) = hs σ
  | 0 => rfl
  | n + 1 => (wm_hs a n)
theorem wm_gc (a y : Nat) : ∀ n, gc (wm n σ a) y = gc σ y
  | 0 => rfl
  | n + 1 => (wm_gc a y n)
theorem wm_gl (a y : Nat) : ∀ n, gl (wm n σ a) y = gl σ y
  | 0 => rfl
  | n + 1 => (wm_gl a y n)
theorem wm_gp (a f y : Nat) : ∀ n, gp (wm n σ a) f y = gp σ f y
  | 0 => rfl
  | n + 1 => (wm_gp a f y n)
theorem wm_gi (a f y : Nat) : ∀ n, gi (wm n σ a) f y = gi σ f y
  | 0 => rfl
  | n + 1 => (wm_gi a f y n)
theorem wm_ai (a b i : Nat) : ∀ n, ai (wm n σ a) b i = if b = a ∧ i < n then -1 else ai σ b i
  | 0 => by rw [if_neg (by omega)]; rfl
  | n + 1 => by
    show ai (wi (wm n σ a) a n (-1)) b i = _
    rw [q_ai_wi, wm_ai a b i n]
    by_cases h : b = a ∧ i = n
    · rw [if_pos h, if_pos (by omega)]
    · rw [if_neg h]
      by_cases h2 : b = a ∧ i < n
      · rw [if_pos h2, if_pos (by omega)]
      · rw [if_neg h2, if_neg (by omega)]
theorem wm_fz (a : Nat) (h : Fz τ σ) : ∀ n, Fz τ (wm n σ a)
  | 0 => h
  | n + 1 => (wm_fz a h n).wi
theorem lp_minit {K a kc nc : Nat} (hK : K = 256) (h9 : gc σ m = 9) (hp : gp σ 812 m = some a) (h10 : gc σ a = 10) (h256 : gl σ a = 256) : ∀ g f i, i + g = K → g < f → lp_X7_init f d (wm i σ a) m (nI i) kc nc = some ((), wm K σ a, kc, nc)
  | 0, f + 1, i, e, _ => by
    have e : i = K := by omega
    subst e
    rw [lp_X7_init, if_pos (by rw [hK]; decide)]
  | g + 1, f + 1, i, e, hf => by
    rw [lp_X7_init, if_neg (by rw [show (256 : Int32) = nI 256 from rfl, nI_leI (by omega) (by omega)]; omega), if_pos (by rw [wm_gc]; exact h9), wm_gp, hp, Option.bind_some, if_pos (by rw [wm_gc]; exact h10), if_pos (by rw [wm_gl, nI_clamp (by omega), h256]; intro q; rcases q with q | q; exact nI_nl (by omega) q; omega), nI_clamp (by omega), nI_1]
    exact lp_minit hK h9 hp h10 h256 g f (i + 1) (by omega) (by omega)
theorem lp_minit0 {K a kc nc : Nat} (hK : K = 256) (h9 : gc σ m = 9) (hp : gp σ 812 m = some a) (h10 : gc σ a = 10) (h256 : gl σ a = 256) {f : Nat} (hf : K < f) : lp_X7_init f d σ m 0 kc nc = some ((), wm K σ a, kc, nc) := by
  have h := lp_minit (d := d) (kc := kc) (nc := nc) hK h9 hp h10 h256 K f 0 (by omega) hf
  rw [wm_0, nI_0] at h
  exact h
/-- what the reference's constructor comes to -/
def MQ0 (τ : Sg) (m : Nat) (A : Option (Unit × Sg × Nat × Nat)) : Prop := ∃ ρ k n, A = some ((), ρ, k, n) ∧ k ≤ 20 ∧ n ≤ 260000 ∧ MS ρ m (fun k => m + 1 + k) ∧ MI (Vw ρ m (fun k => m + 1 + k)) ∧ Fz τ ρ
theorem mj_end {g : Nat → Int32} (M : MJ τ σ m 14 g) (hg : ∀ f, g f = if f = 827 then -1 else if f = 825 then -1 else if f = 813 then -1 else 0) {kc nc f : Nat} (hk : kc ≤ 20) (hn : nc ≤ 260000) (hf : 256 < f) : MQ0 τ m (lp_X7_init f d σ m 0 kc nc) := by
  obtain ⟨m1, m2, m3, m4, m5, m6, m7⟩ := M
  obtain ⟨K, hK⟩ : ∃ K, K = 256 := ⟨256, rfl⟩
  have a9 := m4 9 (by omega)
  refine ⟨wm K σ (m + 1 + 9), kc, nc, lp_minit0 hK m1 a9.1 a9.2.1 a9.2.2 (by omega), hk, hn, ⟨by rw [wm_gc]; exact m1, fun k hk => by rw [wm_gp]; exact (m4 k hk).1, fun k hk => by rw [wm_gc]; exact (m4 k hk).2.1, fun k hk => by rw [wm_gl]; exact (m4 k hk).2.2, fun j k _ _ e => by have e' : m + 1 + j = m + 1 + k := e; omega⟩, ?_, wm_fz _ m6 K⟩
  have hS : ∀ f, mS (Vw (wm K σ (m + 1 + 9)) m (fun k => m + 1 + k)) f = g f := fun f => by
    show gi (wm K σ (m + 1 + 9)) f m = g f
    rw [wm_gi]
    exact m3 f
  refine ⟨?_, ?_, ?_, ?_, ?_, ?_, ?_, ?_, ?_, fun i hi => ?_, fun o ho => ?_⟩
  · rw [hS, hg]; rfl
  · rw [hS, hg]; rfl
  · rw [hS, hg]; rfl
  · rw [hS, hg]; rfl
  · rw [hS, hg]; rfl
  · rw [hS, hg]; rfl
  · rw [hS, hg]; rfl
  · rw [hS, hg]; rfl
  · rw [hS, hg]; rfl
  · show ai (wm K σ (m + 1 + 9)) (m + 1 + 9) i = -1
    rw [wm_ai, if_pos ⟨rfl, by omega⟩]
  · show ai (wm K σ (m + 1 + 9)) (m + 1 + 0) o = _
    rw [wm_ai, if_neg (by omega)]
    exact m5 o (by omega)
theorem tc0 : Int32.toNatClampNeg (0 : Int32) = 0 := by decide
theorem tc1 : Int32.toNatClampNeg (1 : Int32) = 1 := by decide
theorem tc2 : Int32.toNatClampNeg (2 : Int32) = 2 := by decide
theorem tc3 : Int32.toNatClampNeg (3 : Int32) = 3 := by decide
theorem tc4 : Int32.toNatClampNeg (4 : Int32) = 4 := by decide
theorem tc5 : Int32.toNatClampNeg (5 : Int32) = 5 := by decide
theorem tc6 : Int32.toNatClampNeg (6 : Int32) = 6 := by decide
theorem tc7 : Int32.toNatClampNeg (7 : Int32) = 7 := by decide
theorem tc8 : Int32.toNatClampNeg (8 : Int32) = 8 := by decide
theorem tc9 : Int32.toNatClampNeg (9 : Int32) = 9 := by decide
theorem tc10 : Int32.toNatClampNeg (10 : Int32) = 10 := by decide
theorem tc11 : Int32.toNatClampNeg (11 : Int32) = 11 := by decide
theorem tc12 : Int32.toNatClampNeg (12 : Int32) = 12 := by decide
theorem tc13 : Int32.toNatClampNeg (13 : Int32) = 13 := by decide
theorem tc14 : Int32.toNatClampNeg (14 : Int32) = 14 := by decide
theorem tc15 : Int32.toNatClampNeg (15 : Int32) = 15 := by decide
theorem tc16 : Int32.toNatClampNeg (16 : Int32) = 16 := by decide
theorem tc17 : Int32.toNatClampNeg (17 : Int32) = 17 := by decide
theorem tc18 : Int32.toNatClampNeg (18 : Int32) = 18 := by decide
theorem tc19 : Int32.toNatClampNeg (19 : Int32) = 19 := by decide
theorem tc20 : Int32.toNatClampNeg (20 : Int32) = 20 := by decide
theorem tc21 : Int32.toNatClampNeg (21 : Int32) = 21 := by decide
theorem tc4000 : Int32.toNatClampNeg (4000 : Int32) = 4000 := by decide
theorem tc12000 : Int32.toNatClampNeg (12000 : Int32) = 12000 := by decide
theorem tc50000 : Int32.toNatClampNeg (50000 : Int32) = 50000 := by decide
theorem tc20000 : Int32.toNatClampNeg (20000 : Int32) = 20000 := by decide
theorem tc201 : Int32.toNatClampNeg (201 : Int32) = 201 := by decide
theorem tc603 : Int32.toNatClampNeg (603 : Int32) = 603 := by decide
theorem ce_minit (hm : hs τ = m) (hZ : GZ τ) : MQ0 τ m (ex_X7_init d (nw τ 9) m) := by
  have H1 : hs (nw τ 9) = m + 1 := by rw [q_hs_nw, hm]
  have C1 : gc (nw τ 9) m = 9 := by rw [q_gc_nw, hm, if_pos rfl]
  have I1 : ∀ f, gi (nw τ 9) f m = 0 := fun f => by rw [q_gi_nw, hm, if_pos rfl]
  have F1 : Fz τ (nw τ 9) := (Fz.rf hZ).nw (by omega)
  generalize nw τ 9 = σ at H1 C1 I1 F1
  have F2 : Fz τ (na σ 10 21) := F1.na (by omega)
  have C2 : gc (na σ 10 21) m = 9 := by rw [q_gc_na, H1, if_neg (by omega)]; exact C1
  have G2 : gc (na σ 10 21) (m + 1) = 10 := by rw [q_gc_na, H1, if_pos rfl]
  have L2 : gl (na σ 10 21) (m + 1) = 21 := by rw [q_gl_na, H1, if_pos rfl]
  have H2 : hs (na σ 10 21) = m + 1 + 1 := by rw [q_hs_na, H1]
  have I2 : ∀ f, gi (na σ 10 21) f m = 0 := I1
  unfold ex_X7_init
  rw [tc0, tc1, tc2, tc3, tc4, tc5, tc6, tc7, tc8, tc9, tc10, tc11, tc12, tc13, tc14, tc15, tc16, tc17, tc18, tc19, tc20, tc21, tc4000, tc12000, tc50000, tc20000, tc201, tc603, tc256, H1]
  generalize na σ 10 21 = σ2 at F2 C2 G2 L2 H2 I2 ⊢
  rw [if_pos (by rw [L2]; decide), if_pos (by rw [L2]; decide), if_pos (by rw [L2]; decide), if_pos (by rw [L2]; decide), if_pos (by rw [L2]; decide), if_pos (by rw [L2]; decide), if_pos (by rw [L2]; decide)]
  refine bn_go (P := fun s => s = wl [0, 0, 2, 3, 3, 1, 1] σ2 (m + 1) 0) (Q := MQ0 τ m) rfl (fun s8 e8 => ?_)
  have G8 : gc s8 (m + 1) = 10 := by rw [e8, wl_gc]; exact G2
  have L8 : gl s8 (m + 1) = 21 := by rw [e8, wl_gl]; exact L2
  show MQ0 τ m _
  rw [if_pos G8, if_pos (by rw [L8]; decide), if_pos (by rw [L8]; decide), if_pos (by rw [L8]; decide), if_pos (by rw [L8]; decide), if_pos (by rw [L8]; decide), if_pos (by rw [L8]; decide), if_pos (by rw [L8]; decide), if_pos (by rw [L8]; decide)]
  refine bn_go (P := fun s => s = wl [0, 0, 2, 3, 3, 1, 1, 5, 1, 1, 5, 2, 7, 3, 1] σ2 (m + 1) 0) (Q := MQ0 τ m) (by rw [e8]; rfl) (fun s19 e19 => ?_)
  have G19 : gc s19 (m + 1) = 10 := by rw [e19, wl_gc]; exact G2
  have L19 : gl s19 (m + 1) = 21 := by rw [e19, wl_gl]; exact L2
  have C19 : gc s19 m = 9 := by rw [e19, wl_gc]; exact C2
  rw [if_pos G19, if_pos (by rw [L19]; decide), if_pos (by rw [L19]; decide), if_pos (by rw [L19]; decide), if_pos (by rw [L19]; decide), if_pos (by rw [L19]; decide), if_pos (by rw [L19]; decide), if_pos C19]
  refine bn_go (P := fun s => MJ τ s m 1 (fun _ => 0)) (Q := MQ0 τ m) ?_ (fun s29 M29 => ?_)
  · have e29 : wi (wi (wi (wi (wi (wi s19 (m + 1) 15 5) (m + 1) 16 1) (m + 1) 17 1) (m + 1) 18 3) (m + 1) 19 7) (m + 1) 20 3 = wl nmL σ2 (m + 1) 0 := by rw [e19]; rfl
    rw [e29]
    refine ⟨by rw [q_gc_sp, wl_gc]; exact C2, by rw [q_hs_sp, wl_hs]; exact H2, fun f => by rw [q_gi_sp, wl_gi]; exact I2 f, fun k hk => ?_, fun o ho => ?_, (wl_fz nmL σ2 (m + 1) 0 F2).sp (by omega), hm⟩
    · have e : k = 0 := by omega
      subst e
      refine ⟨by rw [q_gp_sp, if_pos ⟨rfl, rfl⟩], by rw [q_gc_sp, wl_gc]; exact G2, by rw [q_gl_sp, wl_gl]; exact L2⟩
    · rw [q_ai_sp]
      have z := wl_ai (m + 1) nmL σ2 0 o ho
      rw [Nat.zero_add] at z
      rw [z]
      exact nmL_T o ho
  rw [if_pos M29.c1, if_pos M29.c2]
  refine bn_go (P := fun s => MJ τ s m 3 (fun _ => 0)) (Q := MQ0 τ m) (M29.two (by omega) (by omega) (by decide) (by decide) (by decide) (by decide) (by decide) (by decide)) (fun s33 M33 => ?_)
  rw [if_pos M33.c1, if_pos M33.c2]
  refine bn_go (P := fun s => MJ τ s m 5 (fun _ => 0)) (Q := MQ0 τ m) (M33.two (by omega) (by omega) (by decide) (by decide) (by decide) (by decide) (by decide) (by decide)) (fun s37 M37 => ?_)
  rw [if_pos M37.c1, if_pos M37.c2]
  refine bn_go (P := fun s => MJ τ s m 7 (fun _ => 0)) (Q := MQ0 τ m) (M37.two (by omega) (by omega) (by decide) (by decide) (by decide) (by decide) (by decide) (by decide)) (fun s41 M41 => ?_)
  rw [if_pos M41.c1, if_pos M41.c2]
  refine bn_go (P := fun s => MJ τ s m 9 (fun _ => 0)) (Q := MQ0 τ m) (M41.two (by omega) (by omega) (by decide) (by decide) (by decide) (by decide) (by decide) (by decide)) (fun s45 M45 => ?_)
  rw [if_pos M45.c1, if_pos M45.c2]
  refine bn_go (P := fun s => MJ τ s m 11 (fun q => if q = 813 then -1 else 0)) (Q := MQ0 τ m) ?_ (fun s49 M49 => ?_)
  · have a := (((M45.add (c := 10) (n := 256) (f := 812) (by omega) (by omega) (by decide) (by decide) (by decide)).si (f := 813) (v := -1)).add (c := 10) (n := 201) (f := 814) (by omega) (by omega) (by decide) (by decide) (by decide))
    rw [M45.2.1]
    exact a
  rw [if_pos M49.c1, if_pos M49.c2]
  refine bn_go (P := fun s => MJ τ s m 13 (fun q => if q = 813 then -1 else 0)) (Q := MQ0 τ m) (M49.two (by omega) (by omega) (by decide) (by decide) (by decide) (by decide) (by decide) (by decide)) (fun s53 M53 => ?_)
  rw [if_pos M53.c1]
  have M56 := ((M53.add (c := 11) (n := 201) (f := 817) (by omega) (by omega) (by decide) (by decide) (by decide)).si (f := 825) (v := -1)).si (f := 827) (v := -1)
  rw [M53.2.1]
  exact mj_end M56 (fun f => rfl) (by omega) (by omega) (by omega)
/-- the law's start -/
theorem law_start (e0 : hs σ = h) (hZ : GZ σ) (h7 : ∀ a, gc σ a ≠ 7) (d1 : gc σ (dfl d) = 14) (d2 : gl σ (dfl d) = 0) (hL : L ≤ 2560) : ∃ τ k n, ex_L_law L xs d σ = some (1, τ, k, n) ∧ k ≤ 600000 ∧ n ≤ 7302250 := by
  obtain ⟨s2, k4, n5, e1, hk4, hn5, C⟩ := ce_cinit e0 hZ h7 d1 d2
  have hm : hs s2 = h + 7 := C.1
  obtain ⟨s7, k9, n10, e2, hk9, hn10, M, MIv, z⟩ := ce_minit (d := d) hm C.2.1
  have I := (ci_id C MIv).fz z
  unfold ex_L_law
  rw [e0, e1, b4_some, hm, e2, b4_some]
  have q := law_loop (xs := xs) hL 600 0 s7 (dfl d) (fun _ => h + 6) 0 0 0 0 (0 + 1 + k4 + 1 + k9) (0 + 2 + n5 + 28 + n10) (by omega) (by omega) M I (by omega) (by omega) (by omega)
  unfold LE at q
  rw [Nat.mul_zero, nI_0] at q
  exact q
end MINIT
