section WIPE
variable {d : Dp} {σ τ ρ : Sg} {μ ν : Mu} {x pg mc mk sa ls es es' : Nat} {Fr Fr' : Nat → Nat} {F N N' Tn Tm Pn Pm : Nat}
/-- all but the list and its NODES stands as it was -/
def AgP (σ τ : Sg) : Prop := GZ τ ∧ (∀ a, gc σ a ≠ 0 → gc τ a = gc σ a ∧ gl τ a = gl σ a) ∧ (∀ a f, gc σ a ≠ 0 → ((100 ≤ f ∧ f < 400) ∨ 500 ≤ f) → gi τ f a = gi σ f a) ∧ (∀ a f, gc σ a ≠ 0 → f ≠ 402 → gj τ f a = gj σ f a) ∧ (∀ a f, gc σ a ≠ 0 → 100 ≤ f → gp τ f a = gp σ f a) ∧ (∀ a i, gc σ a = 12 → ap τ a i = ap σ a i) ∧ (∀ a, gc τ a = 7 → gc σ a = 7)
theorem AgP.rf (h : GZ σ) : AgP σ σ := ⟨h, fun _ _ => ⟨rfl, rfl⟩, fun _ _ _ _ => rfl, fun _ _ _ _ => rfl, fun _ _ _ _ => rfl, fun _ _ _ => rfl, fun _ h => h⟩
theorem AgP.tr (h : AgP σ τ) (k : AgP τ ρ) : AgP σ ρ := by
  obtain ⟨h1, h2, h3, h4, h5, h6, h7⟩ := h
  obtain ⟨k1, k2, k3, k4, k5, k6, k7⟩ := k
  have ne : ∀ a, gc σ a ≠ 0 → gc τ a ≠ 0 := fun a ha => by rw [(h2 a ha).1]; exact ha
  refine ⟨k1, fun a ha => ⟨(k2 a (ne a ha)).1.trans (h2 a ha).1, (k2 a (ne a ha)).2.trans (h2 a ha).2⟩, fun a f ha hf => (k3 a f (ne a ha) hf).trans (h3 a f ha hf), fun a f ha hf => (k4 a f (ne a ha) hf).trans (h4 a f ha hf), fun a f ha hf => (k5 a f (ne a ha) hf).trans (h5 a f ha hf), fun a i ha => ?_, fun a ha => h7 a (k7 a ha)⟩
  have h8 : gc τ a = 12 := by rw [(h2 a (by omega)).1]; exact ha
  exact (k6 a i h8).trans (h6 a i ha)
theorem AgP.si (h : AgP σ τ) {f a : Nat} {v : Int32} (hf : f < 100 ∨ (400 ≤ f ∧ f < 500)) : AgP σ (si τ f a v) :=
  h.tr ⟨h.1, fun _ _ => ⟨rfl, rfl⟩, fun b g _ hg => by rw [q_gi_si, if_neg (by omega)], fun _ _ _ _ => rfl, fun _ _ _ _ => rfl, fun _ _ _ => rfl, fun _ h => h⟩
theorem AgP.sj (h : AgP σ τ) {a : Nat} {v : Int64} : AgP σ (sj τ 402 a v) :=
  h.tr ⟨h.1, fun _ _ => ⟨rfl, rfl⟩, fun _ _ _ _ => rfl, fun b g _ hg => by rw [q_gj_sj, if_neg (by omega)], fun _ _ _ _ => rfl, fun _ _ _ => rfl, fun _ h => h⟩
theorem AgP.sp (h : AgP σ τ) {f a : Nat} {v : Option Nat} (hf : f < 100) : AgP σ (sp τ f a v) :=
  h.tr ⟨h.1, fun _ _ => ⟨rfl, rfl⟩, fun _ _ _ _ => rfl, fun _ _ _ _ => rfl, fun b g _ hg => by rw [q_gp_sp, if_neg (by omega)], fun _ _ _ => rfl, fun _ h => h⟩
theorem AgP.wp (h : AgP σ τ) {a i : Nat} {v : Option Nat} (ha : gc τ a ≠ 12) : AgP σ (wp τ a i v) :=
  h.tr ⟨h.1, fun _ _ => ⟨rfl, rfl⟩, fun _ _ _ _ => rfl, fun _ _ _ _ => rfl, fun _ _ _ _ => rfl, fun b j hb => by rw [q_ap_wp, if_neg (fun q => ha (by rw [← q.1]; exact hb))], fun _ h => h⟩
theorem AgP.wr (h : AgP σ τ) {a : Nat} {v : Nat → Option Nat} (ha : gc τ a ≠ 12) : AgP σ (wr τ a v) :=
  h.tr ⟨h.1, fun _ _ => ⟨rfl, rfl⟩, fun _ _ _ _ => rfl, fun _ _ _ _ => rfl, fun _ _ _ _ => rfl, fun b j hb => by rw [q_ap_wr, if_neg (fun q => ha (by rw [← q]; exact hb))], fun _ h => h⟩
theorem AgP.nw (h : AgP σ τ) {c : Nat} (hc : c ≠ 7) : AgP σ (nw τ c) := by
  have o := AgO.nw h.1 (c := c)
  refine h.tr ⟨o.1, o.2.1, fun a f ha _ => ?_, fun a f ha _ => ?_, fun a f ha _ => ?_, fun _ _ _ => rfl, fun a ha => ?_⟩
  · rw [q_gi_nw, if_neg (h.1.ne ha)]
  · rw [q_gj_nw, if_neg (h.1.ne ha)]
  · rw [q_gp_nw, if_neg (h.1.ne ha)]
  · rw [q_gc_nw] at ha
    by_cases e : a = hs τ
    · rw [if_pos e] at ha; exact absurd ha hc
    · rw [if_neg e] at ha; exact ha
theorem AgP.na (h : AgP σ τ) {c n : Nat} (hc : c ≠ 7) : AgP σ (na τ c n) := by
  have o := AgO.na h.1 (c := c) (N := n)
  refine h.tr ⟨o.1, o.2.1, fun _ _ _ _ => rfl, fun _ _ _ _ => rfl, fun _ _ _ _ => rfl, fun a i ha => ?_, fun a ha => ?_⟩
  · rw [q_ap_na, if_neg (h.1.ne (by omega))]
  · rw [q_gc_na] at ha
    by_cases e : a = hs τ
    · rw [if_pos e] at ha; exact absurd ha hc
    · rw [if_neg e] at ha; exact ha
theorem AgP.t (h : AgP σ τ) {sa : Nat} : AgT σ τ sa := by
  obtain ⟨h1, h2, h3, h4, h5, h6, h7⟩ := h
  refine ⟨fun a => ⟨h7 a, fun ha => by rw [(h2 a (by omega)).1]; exact ha⟩, fun a ha => ⟨h3 a 600 (by omega) (by omega), h3 a 601 (by omega) (by omega), h4 a 602 (by omega) (by omega), h5 a 603 (by omega) (by omega), h5 a 604 (by omega) (by omega), h3 a 605 (by omega) (by omega), h5 a 606 (by omega) (by omega)⟩, fun q hq _ => ⟨(h2 q (by omega)).1, (h2 q (by omega)).2, fun j => h6 q j hq⟩⟩
theorem AgP.s (h : AgP σ τ) {mc mk sa : Nat} (h3 : gc σ mc = 3) (h4 : gc σ mk = 4) (h12 : gc σ sa = 12) : AgS σ τ mc mk sa := by
  obtain ⟨p1, p2, p3, p4, p5, p6, p7⟩ := h
  exact ⟨p3 mk 300 (by omega) (by omega), p3 mk 301 (by omega) (by omega), fun i => p6 sa i h12, p5 mc 205 (by omega) (by omega), p5 mc 206 (by omega) (by omega)⟩
theorem AgP.c {f0 : Nat} (h : AgP σ τ) (c : GC σ x pg mc mk sa ls f0) : GC τ x pg mc mk sa ls f0 := by
  obtain ⟨h1, h2, h3, h4, h5, h6, h7, h8, h9, h10, h11, h12, h13, h14⟩ := c
  obtain ⟨-, o2, -, -, o5, -, -⟩ := h
  refine ⟨?_, ?_, ?_, ?_, ?_, ?_, ?_, ?_, ?_, ?_, ?_, ?_, ?_, ?_⟩
  · rw [(o2 x (by omega)).1]; exact h1
  · rw [(o2 mc (by omega)).1]; exact h2
  · rw [(o2 pg (by omega)).1]; exact h3
  · rw [(o2 mk (by omega)).1]; exact h4
  · rw [(o2 ls (by omega)).1]; exact h5
  · rw [(o2 sa (by omega)).1]; exact h6
  · rw [(o2 sa (by omega)).2]; exact h7
  · rw [o5 x 700 (by omega) (by decide)]; exact h8
  · rw [o5 x 701 (by omega) (by decide)]; exact h9
  · rw [o5 mc 200 (by omega) (by decide)]; exact h10
  · rw [o5 mc 201 (by omega) (by decide)]; exact h11
  · rw [o5 mc 202 (by omega) (by decide)]; exact h12
  · rw [o5 mc 203 (by omega) (by decide)]; exact h13
  · rw [o5 pg 500 (by omega) (by decide)]; exact h14
theorem AgP.f (h : AgP σ τ) (f : GF σ Fr F) : GF τ Fr F := by
  obtain ⟨-, o2, o3, -, o5, -, -⟩ := h
  refine ⟨f.1, fun i hi => ?_, fun i hi => ?_⟩
  · obtain ⟨h1, h2, h3⟩ := f.2.1 i hi
    rw [(o2 _ (by omega)).1, o3 _ 101 (by omega) (by omega), o5 _ 102 (by omega) (by decide)]
    exact ⟨h1, h2, h3⟩
  · have h1 := (f.2.1 (i + 1) (by omega)).1
    rw [o5 _ 100 (by omega) (by decide)]
    exact f.2.2 i hi
theorem CR.gn (h : CR d σ μ x pg mc mk sa ls es Fr F N Tn Pn) (p : AgP σ τ) (m : AgM μ ν) (l : AgL μ ν) (g : GN d τ ν N' ls es') : CR d τ ν x pg mc mk sa ls es' Fr F N' Tn Pn :=
  ⟨p.c h.1, p.1, p.f h.2.2.1, g, h.2.2.2.2.1.ag p.t m, h.2.2.2.2.2.ag (p.s h.1.2.1 h.1.2.2.2.1 h.1.2.2.2.2.2.1) l (AgT.g (sa := sa) p.t)⟩
theorem ID.gn (I : ID d σ μ x pg mc mk sa ls es Fr F N Tn Pn) (p : AgP σ τ) (m : AgM μ ν) (l : AgL μ ν) (s : ∀ f, 823 ≤ f → mS ν f = mS μ f) (g : GN d τ ν N' ls es') : ID d τ ν x pg mc mk sa ls es' Fr F N' Tn Pn := by
  obtain ⟨h, i1, i2, i3, S, i4, i5, i6, i7⟩ := I
  have h3 : gc σ mc = 3 := h.1.2.1
  obtain ⟨-, -, p3, -, -, -, -⟩ := id p
  exact ⟨h.gn p m l g, by rw [p3 mc 211 (by omega) (by omega), s 826 (by omega)]; exact i1, by rw [p3 mc 212 (by omega) (by omega), s 827 (by omega)]; exact i2, by rw [p3 mc 210 (by omega) (by omega), s 823 (by omega)]; exact i3, S, by rw [p3 mc 207 (by omega) (by omega)]; exact i4, by rw [s 824 (by omega)]; exact i5, i6, i7⟩
/-- an array's first n places blank -/
def clr : Nat → Sg → Nat → Sg
  | 0, σ, _ => σ
  | n + 1, σ, a => wp (clr n σ a) a n none
def clm : Nat → Mu → Mu
  | 0, μ => μ
  | n + 1, μ => uI (clm n μ) 9 n (-1)
theorem clr_hs (a : Nat) : ∀ n, hs (clr n σ a) = hs σ
  | 0 => rfl
  | n + 1 => clr_hs a n
theorem clr_gc (a c : Nat) : ∀ n, gc (clr n σ a) c = gc σ c
  | 0 => rfl
  | n + 1 => clr_gc a c n
theorem clr_gl (a c : Nat) : ∀ n, gl (clr n σ a) c = gl σ c
  | 0 => rfl
  | n + 1 => clr_gl a c n
theorem clr_gp (a f c : Nat) : ∀ n, gp (clr n σ a) f c = gp σ f c
  | 0 => rfl
  | n + 1 => clr_gp a f c n
theorem clr_gi (a f c : Nat) : ∀ n, gi (clr n σ a) f c = gi σ f c
  | 0 => rfl
  | n + 1 => clr_gi a f c n
theorem clm_S (f : Nat) : ∀ n, mS (clm n μ) f = mS μ f
  | 0 => rfl
  | n + 1 => clm_S f n
theorem clm_J (k i : Nat) : ∀ n, mJ (clm n μ) k i = mJ μ k i
  | 0 => rfl
  | n + 1 => clm_J k i n
theorem clm_I (k i : Nat) : ∀ n, mI (clm n μ) k i = if k = 9 ∧ i < n then -1 else mI μ k i
  | 0 => by rw [if_neg (by omega)]; rfl
  | n + 1 => by
    show mI (uI (clm n μ) 9 n (-1)) k i = _
    rw [q_mI_uI, clm_I k i n]
    by_cases h : k = 9 ∧ i = n
    · rw [if_pos h, if_pos (by omega)]
    · rw [if_neg h]
      by_cases h2 : k = 9 ∧ i < n
      · rw [if_pos h2, if_pos (by omega)]
      · rw [if_neg h2, if_neg (by omega)]
theorem clr_P (h : GZ σ) {a : Nat} (ha : gc σ a ≠ 12) : ∀ n, AgP σ (clr n σ a)
  | 0 => AgP.rf h
  | n + 1 => (clr_P h ha n).wp (by rw [clr_gc]; exact ha)
theorem CR.clr (h : CR d σ μ x pg mc mk sa ls es Fr F N Tn Pn) : ∀ n, CR d (clr n σ sa) (clm n μ) x pg mc mk sa ls es Fr F N Tn Pn
  | 0 => h
  | n + 1 => (CR.clr h n).slot pr.nl
theorem lp_clear (h13 : 0 < N → gc σ es = 13) (hN : N ≤ gl σ es) (h8 : N ≤ 512) : ∀ g f i, i + g = N → g < f → lp_Jx4a65c_clear_da8c8 f d (clr i σ es) ls (some es) (nI N) (nI i) = some ((), clr N σ es)
  | 0, f + 1, i, e, _ => by
    have e : i = N := by omega
    subst e
    rw [lp_Jx4a65c_clear_da8c8, if_pos (by rw [nI_leI (by omega) (by omega)]; omega)]
  | g + 1, f + 1, i, e, hf => by
    rw [lp_Jx4a65c_clear_da8c8, if_neg (by rw [nI_leI (by omega) (by omega)]; omega)]
    simp only [Option.bind_some]
    rw [if_pos (by rw [clr_gc]; exact h13 (by omega)), if_pos (by rw [clr_gl, nI_clamp (by omega)]; intro q; rcases q with q | q; exact nI_nl (by omega) q; omega), nI_clamp (by omega), nI_1]
    exact lp_clear h13 hN h8 g f (i + 1) (by omega) (by omega)
theorem lp_forget {K : Nat} (hK : K = 256) (h3 : gc σ mc = 3) (hp : gp σ 202 mc = some sa) (h12 : gc σ sa = 12) (h256 : gl σ sa = 256) : ∀ g f i, i + g = K → g < f → lp_X1_forget f d (clr i σ sa) mc (nI i) = some ((), sp (sp (clr K σ sa) 205 mc none) 206 mc none)
  | 0, f + 1, i, e, _ => by
    have e : i = K := by omega
    subst e
    rw [lp_X1_forget, if_pos (by rw [hK]; decide), if_pos (by rw [clr_gc]; exact h3)]
  | g + 1, f + 1, i, e, hf => by
    rw [lp_X1_forget, if_neg (by rw [show (256 : Int32) = nI 256 from rfl, nI_leI (by omega) (by omega)]; omega), if_pos (by rw [clr_gc]; exact h3), clr_gp, hp]
    simp only [Option.bind_some]
    rw [if_pos (by rw [clr_gc]; exact h12), if_pos (by rw [clr_gl, nI_clamp (by omega), h256]; intro q; rcases q with q | q; exact nI_nl (by omega) q; omega), nI_clamp (by omega), nI_1]
    exact lp_forget hK h3 hp h12 h256 g f (i + 1) (by omega) (by omega)
theorem lq_wipe {K : Nat} (hK : K = 256) : ∀ g f i, i + g = K → g < f → lq_X7_wipe f (clm i μ) (nI i) = some ((), clm K μ)
  | 0, f + 1, i, e, _ => by
    have e : i = K := by omega
    subst e
    rw [lq_X7_wipe, if_pos (by rw [hK]; decide)]
  | g + 1, f + 1, i, e, hf => by
    rw [lq_X7_wipe, if_neg (by rw [show (256 : Int32) = nI 256 from rfl, nI_leI (by omega) (by omega)]; omega), if_pos (nI_bd (n := 256) (by omega) (by omega)), nI_clamp (by omega), nI_1, bm_eq]
    exact lq_wipe hK g f (i + 1) (by omega) (by omega)
theorem clr_0 (a : Nat) : clr 0 σ a = σ := rfl
theorem clm_0 : clm 0 μ = μ := rfl
theorem lp_clear0 (h13 : 0 < N → gc σ es = 13) (hN : N ≤ gl σ es) (h8 : N ≤ 512) {f : Nat} (hf : N < f) : lp_Jx4a65c_clear_da8c8 f d σ ls (some es) (nI N) 0 = some ((), clr N σ es) := by
  have h := lp_clear (d := d) (ls := ls) h13 hN h8 N f 0 (by omega) hf
  rw [clr_0, nI_0] at h
  exact h
theorem lp_forget0 {K : Nat} (hK : K = 256) (h3 : gc σ mc = 3) (hp : gp σ 202 mc = some sa) (h12 : gc σ sa = 12) (h256 : gl σ sa = 256) {f : Nat} (hf : K < f) : lp_X1_forget f d σ mc 0 = some ((), sp (sp (clr K σ sa) 205 mc none) 206 mc none) := by
  have h := lp_forget (d := d) hK h3 hp h12 h256 K f 0 (by omega) hf
  rw [clr_0, nI_0] at h
  exact h
theorem lq_wipe0 {K : Nat} (hK : K = 256) {f : Nat} (hf : K < f) : lq_X7_wipe f μ 0 = some ((), clm K μ) := by
  have h := lq_wipe (μ := μ) hK K f 0 (by omega) hf
  rw [clm_0, nI_0] at h
  exact h
theorem wipe_n (I : ID d σ μ x pg mc mk sa ls es Fr F N Tn Pn) (n : Nat) : ID d (sp (sp (clr n σ sa) 205 mc none) 206 mc none) (clm n (uS (uS μ 813 (-1)) 825 (-1))) x pg mc mk sa ls es Fr F N Tn Pn := by
  obtain ⟨h1, i1, i2, i3, S, i4, i5, i6, i7⟩ := I
  have hC := ((h1.clr n).held (pr.nl)).given (pr.nl)
  refine ⟨hC.mu (fun k i => ?_) (fun k i => ?_) (fun f hf => ?_), ?_, ?_, ?_, S, ?_, ?_, i6, i7⟩
  · rw [clm_I, q_mI_uS, q_mI_uS, q_mI_uS, q_mI_uS, clm_I]
  · rw [clm_J, q_mJ_uS, q_mJ_uS, q_mJ_uS, q_mJ_uS, clm_J]
  · rw [clm_S, q_mS_uS, q_mS_uS, q_mS_uS, q_mS_uS, clm_S]
  · rw [clm_S, q_mS_uS, if_neg (by omega), q_mS_uS, if_neg (by omega), q_gi_sp, q_gi_sp, clr_gi]
    exact i1
  · rw [clm_S, q_mS_uS, if_neg (by omega), q_mS_uS, if_neg (by omega), q_gi_sp, q_gi_sp, clr_gi]
    exact i2
  · rw [clm_S, q_mS_uS, if_neg (by omega), q_mS_uS, if_neg (by omega), q_gi_sp, q_gi_sp, clr_gi]
    exact i3
  · rw [q_gi_sp, q_gi_sp, clr_gi]
    exact i4
  · rw [clm_S, q_mS_uS, if_neg (by omega), q_mS_uS, if_neg (by omega)]
    exact i5
theorem op_wipe (I : ID d σ μ x pg mc mk sa ls es Fr F N Tn Pn) : ∃ τ ν, ex_X6_wipe d σ x = some ((), τ) ∧ mx_X7_wipe μ = some ((), ν) ∧ ID d τ ν x pg mc mk sa ls es Fr F 0 Tn Pn := by
  have h := I.1
  obtain ⟨c1, c2, c3, c4, c5, c6, c7, c8, c9, c10, c11, c12, c13, c14⟩ := h.1
  obtain ⟨n1, n2, n3, n4, n5, n6, n7⟩ := h.2.2.2.1
  have hes : gc σ es = 13 ∨ gc σ es = 14 := by rcases n5 with k | k <;> omega
  have hne : es ≠ ls := fun e => by rw [e] at hes; omega
  have hN : N ≤ gl σ es := by rcases n5 with k | k <;> omega
  have e1 : ex_Jx4a65c_clear_da8c8 d σ ls = some ((), clr N (si (si σ 0 ls (gi σ 0 ls + 1)) 2 ls 0) es) := by
    unfold ex_Jx4a65c_clear_da8c8
    rw [if_pos c5, n3, n4]
    rw [lp_clear0 (σ := si (si σ 0 ls (gi σ 0 ls + 1)) 2 ls 0) (fun q => by rcases n5 with k | k; exact k.1; omega) hN n1 (by omega)]
  have p1 : AgP σ (si (si σ 0 ls (gi σ 0 ls + 1)) 2 ls 0) := ((AgP.rf h.2.1).si (by omega)).si (by omega)
  have p2 : AgP σ (clr N (si (si σ 0 ls (gi σ 0 ls + 1)) 2 ls 0) es) := p1.tr (clr_P p1.1 (show gc σ es ≠ 12 by omega) N)
  have g2 : gi (clr N (si (si σ 0 ls (gi σ 0 ls + 1)) 2 ls 0) es) 2 ls = nI 0 := by rw [clr_gi, q_gi_si, if_pos ⟨rfl, rfl⟩]; rfl
  have g1 : gp (clr N (si (si σ 0 ls (gi σ 0 ls + 1)) 2 ls 0) es) 1 ls = some es := by rw [clr_gp]; exact n4
  have gc0 : ∀ c, gc (clr N (si (si σ 0 ls (gi σ 0 ls + 1)) 2 ls 0) es) c = gc σ c := fun c => by rw [clr_gc]; rfl
  have gl0 : ∀ c, gl (clr N (si (si σ 0 ls (gi σ 0 ls + 1)) 2 ls 0) es) c = gl σ c := fun c => by rw [clr_gl]; rfl
  generalize clr N (si (si σ 0 ls (gi σ 0 ls + 1)) 2 ls 0) es = σ1 at e1 p2 g2 g1 gc0 gl0
  have G : GN d σ1 (uS μ 804 0) 0 ls es := ⟨by omega, rfl, g2, g1, by rw [gc0, gl0]; rcases n5 with k | k; exact Or.inl ⟨k.1, by omega, k.2.2⟩; exact Or.inr ⟨rfl, k.2⟩, fun i hi => by omega, n7⟩
  have I1 : ID d σ1 (uS μ 804 0) x pg mc mk sa ls es Fr F 0 Tn Pn := I.gn p2 ⟨rfl, rfl, fun _ => ⟨rfl, rfl, rfl, rfl, rfl⟩⟩ ⟨fun _ => rfl, rfl, rfl⟩ (fun f hf => by rw [q_mS_uS, if_neg (by omega)]) G
  obtain ⟨b1, b2', b3, b4', b5, b6, b7, b8, b9, b10, b11, b12, b13, b14⟩ := I1.1.1
  obtain ⟨K, hK⟩ : ∃ K, K = 256 := ⟨256, rfl⟩
  refine ⟨sp (sp (clr K σ1 sa) 205 mc none) 206 mc none, clm K (uS (uS (uS μ 804 0) 813 (-1)) 825 (-1)), ?_, ?_, wipe_n I1 K⟩
  · unfold ex_X6_wipe
    rw [if_pos c1, c8]
    simp only [Option.bind_some]
    rw [if_pos c3]
    unfold ex_X4_clear
    rw [if_pos c3, c14]
    simp only [Option.bind_some]
    rw [if_pos c5, e1]
    simp only [b2_some]
    rw [if_pos b1, b9]
    simp only [Option.bind_some]
    rw [if_pos b2']
    unfold ex_X1_forget
    rw [lp_forget0 hK b2' b12 b6 b7 (by omega), b2_some]
  · unfold mx_X7_wipe
    rw [bm_eq, bm_eq, bm_eq, lq_wipe0 hK (by omega)]
end WIPE
