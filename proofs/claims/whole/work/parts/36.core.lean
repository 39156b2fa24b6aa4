def oI (f : Nat) : Bool := [2, 101, 400, 401, 403, 404, 405].contains f
def oP (f : Nat) : Bool := [1, 100, 102, 200, 201, 202, 203, 500, 700, 701].contains f
/-- all that isn't a THING, a SLOT or a number of the machine stands as it was -/
def AgO (σ τ : Sg) : Prop := (∀ a, gc τ a ≠ 0 → a < hs τ) ∧ (∀ a, gc σ a ≠ 0 → gc τ a = gc σ a ∧ gl τ a = gl σ a) ∧ (∀ a f, gc σ a ≠ 0 → oI f = true → gi τ f a = gi σ f a) ∧ (∀ a, gc σ a ≠ 0 → gj τ 402 a = gj σ 402 a) ∧ (∀ a f, gc σ a ≠ 0 → oP f = true → gp τ f a = gp σ f a) ∧ (∀ a i, gc σ a = 13 → ap τ a i = ap σ a i)
theorem AgO.rf {σ : Sg} (h : GZ σ) : AgO σ σ := ⟨h, fun _ _ => ⟨rfl, rfl⟩, fun _ _ _ _ => rfl, fun _ _ => rfl, fun _ _ _ _ => rfl, fun _ _ _ => rfl⟩
theorem AgO.z {σ τ : Sg} (h : AgO σ τ) : GZ τ := h.1
theorem AgO.tr {σ τ ρ : Sg} (h : AgO σ τ) (k : AgO τ ρ) : AgO σ ρ := by
  obtain ⟨h1, h2, h3, h4, h5, h6⟩ := h
  obtain ⟨k1, k2, k3, k4, k5, k6⟩ := k
  have ne : ∀ a, gc σ a ≠ 0 → gc τ a ≠ 0 := fun a ha => by rw [(h2 a ha).1]; exact ha
  refine ⟨k1, fun a ha => ⟨(k2 a (ne a ha)).1.trans (h2 a ha).1, (k2 a (ne a ha)).2.trans (h2 a ha).2⟩, fun a f ha hf => (k3 a f (ne a ha) hf).trans (h3 a f ha hf), fun a ha => (k4 a (ne a ha)).trans (h4 a ha), fun a f ha hf => (k5 a f (ne a ha) hf).trans (h5 a f ha hf), fun a i ha => ?_⟩
  have h7 : gc τ a = 13 := by rw [(h2 a (by omega)).1]; exact ha
  exact (k6 a i h7).trans (h6 a i ha)
theorem AgO.si {σ : Sg} (h : GZ σ) {f a : Nat} {v : Int32} (hf : oI f = false) : AgO σ (si σ f a v) := ⟨h, fun _ _ => ⟨rfl, rfl⟩, fun b g _ hg => by rw [q_gi_si, if_neg (fun q => by rw [q.1, hf] at hg; cases hg)], fun _ _ => rfl, fun _ _ _ _ => rfl, fun _ _ _ => rfl⟩
theorem AgO.sj {σ : Sg} (h : GZ σ) {f a : Nat} {v : Int64} (hf : f ≠ 402) : AgO σ (sj σ f a v) := ⟨h, fun _ _ => ⟨rfl, rfl⟩, fun _ _ _ _ => rfl, fun b _ => by rw [q_gj_sj, if_neg (fun q => hf q.1.symm)], fun _ _ _ _ => rfl, fun _ _ _ => rfl⟩
theorem AgO.sp {σ : Sg} (h : GZ σ) {f a : Nat} {v : Option Nat} (hf : oP f = false) : AgO σ (sp σ f a v) := ⟨h, fun _ _ => ⟨rfl, rfl⟩, fun _ _ _ _ => rfl, fun _ _ => rfl, fun b g _ hg => by rw [q_gp_sp, if_neg (fun q => by rw [q.1, hf] at hg; cases hg)], fun _ _ _ => rfl⟩
theorem AgO.wp {σ : Sg} (h : GZ σ) {a i : Nat} {v : Option Nat} (ha : gc σ a ≠ 13) : AgO σ (wp σ a i v) := ⟨h, fun _ _ => ⟨rfl, rfl⟩, fun _ _ _ _ => rfl, fun _ _ => rfl, fun _ _ _ _ => rfl, fun b j hb => by rw [q_ap_wp, if_neg (fun q => ha (by rw [← q.1]; exact hb))]⟩
theorem GZ.ne {σ : Sg} (h : GZ σ) {a : Nat} (ha : gc σ a ≠ 0) : a ≠ hs σ := fun e => by have := h a ha; omega
theorem GZ.hs0 {σ : Sg} (h : GZ σ) : gc σ (hs σ) = 0 := by
  by_cases q : gc σ (hs σ) = 0
  · exact q
  · have := h _ q; omega
theorem AgO.nw {σ : Sg} (h : GZ σ) {c : Nat} : AgO σ (nw σ c) := by
  refine ⟨fun a ha => ?_, fun a ha => ?_, fun a f ha _ => ?_, fun a ha => ?_, fun a f ha _ => ?_, fun _ _ _ => rfl⟩
  · rw [q_gc_nw] at ha
    rw [q_hs_nw]
    by_cases e : a = hs σ
    · omega
    · rw [if_neg e] at ha
      have := h a ha
      omega
  · rw [q_gc_nw, if_neg (h.ne ha)]
    exact ⟨rfl, rfl⟩
  · rw [q_gi_nw, if_neg (h.ne ha)]
  · rw [q_gj_nw, if_neg (h.ne ha)]
  · rw [q_gp_nw, if_neg (h.ne ha)]
theorem AgO.na {σ : Sg} (h : GZ σ) {c N : Nat} : AgO σ (na σ c N) := by
  refine ⟨fun a ha => ?_, fun a ha => ?_, fun a f ha _ => rfl, fun a ha => rfl, fun a f ha _ => rfl, fun a i ha => ?_⟩
  · rw [q_gc_na] at ha
    rw [q_hs_na]
    by_cases e : a = hs σ
    · omega
    · rw [if_neg e] at ha
      have := h a ha
      omega
  · rw [q_gc_na, if_neg (h.ne ha), q_gl_na, if_neg (h.ne ha)]
    exact ⟨rfl, rfl⟩
  · rw [q_ap_na, if_neg (h.ne (by omega))]
theorem GC.o {σ τ : Sg} {x pg mc mk sa ls f0 : Nat} (h : GC σ x pg mc mk sa ls f0) (o : AgO σ τ) : GC τ x pg mc mk sa ls f0 := by
  obtain ⟨h1, h2, h3, h4, h5, h6, h7, h8, h9, h10, h11, h12, h13, h14⟩ := h
  obtain ⟨-, o2, -, -, o5, -⟩ := o
  refine ⟨?_, ?_, ?_, ?_, ?_, ?_, ?_, ?_, ?_, ?_, ?_, ?_, ?_, ?_⟩
  · rw [(o2 x (by omega)).1]; exact h1
  · rw [(o2 mc (by omega)).1]; exact h2
  · rw [(o2 pg (by omega)).1]; exact h3
  · rw [(o2 mk (by omega)).1]; exact h4
  · rw [(o2 ls (by omega)).1]; exact h5
  · rw [(o2 sa (by omega)).1]; exact h6
  · rw [(o2 sa (by omega)).2]; exact h7
  · rw [o5 x 700 (by omega) (by decide)]; exact h8
  · rw [o5 x 701 (by omega) (by decide)]; exact h9
  · rw [o5 mc 200 (by omega) (by decide)]; exact h10
  · rw [o5 mc 201 (by omega) (by decide)]; exact h11
  · rw [o5 mc 202 (by omega) (by decide)]; exact h12
  · rw [o5 mc 203 (by omega) (by decide)]; exact h13
  · rw [o5 pg 500 (by omega) (by decide)]; exact h14
theorem GF.o {σ τ : Sg} {Fr : Nat → Nat} {F : Nat} (h : GF σ Fr F) (o : AgO σ τ) : GF τ Fr F := by
  obtain ⟨-, o2, o3, -, o5, -⟩ := o
  refine ⟨h.1, fun i hi => ?_, fun i hi => ?_⟩
  · obtain ⟨h1, h2, h3⟩ := h.2.1 i hi
    rw [(o2 _ (by omega)).1, o3 _ 101 (by omega) (by decide), o5 _ 102 (by omega) (by decide)]
    exact ⟨h1, h2, h3⟩
  · have h1 := (h.2.1 (i + 1) (by omega)).1
    rw [o5 _ 100 (by omega) (by decide)]
    exact h.2.2 i hi
def AgN (μ ν : Mu) : Prop := mS ν 804 = mS μ 804 ∧ (∀ i, mI ν 0 i = mI μ 0 i ∧ mI ν 1 i = mI μ 1 i ∧ mI ν 2 i = mI μ 2 i ∧ mJ ν 3 i = mJ μ 3 i)
theorem Nk.o {σ τ : Sg} {μ ν : Mu} {N b i : Nat} (h : Nk σ μ N b i) (o : AgO σ τ) (n : AgN μ ν) : Nk τ ν N b i := by
  obtain ⟨h1, h2, op, h3, h4, h5, h6, h7⟩ := h
  obtain ⟨-, o2, o3, o4, -, -⟩ := o
  refine ⟨by rw [(o2 b (by omega)).1]; exact h1, by rw [o3 b 400 (by omega) (by decide)]; exact h2, op, h3, by rw [o3 b 401 (by omega) (by decide)]; exact h4, by rw [(n.2 i).2.1]; exact h5, fun e => by rw [o4 b (by omega), (n.2 i).2.2.2]; exact h6 e, fun e => ?_⟩
  obtain ⟨k1, k2, k3, k4⟩ := h7 e
  rw [o3 b 403 (by omega) (by decide), o3 b 404 (by omega) (by decide), o3 b 405 (by omega) (by decide), (n.2 _).2.2.1, (n.2 _).2.2.1, (n.2 _).2.2.1]
  refine ⟨k1, k2, k3, fun w hw hn => ?_⟩
  rw [(n.2 _).2.2.1]
  exact k4 w hw hn
theorem GN.o {d : Dp} {σ τ : Sg} {μ ν : Mu} {N ls es : Nat} (h : GN d σ μ N ls es) (hl : gc σ ls = 1) (o : AgO σ τ) (n : AgN μ ν) : GN d τ ν N ls es := by
  obtain ⟨h1, h2, h3, h4, h5, h6, h7⟩ := h
  have o' := o
  obtain ⟨-, o2, o3, o4, o5, o6⟩ := o
  have hes : gc σ es ≠ 0 := by rcases h5 with k | k <;> omega
  refine ⟨h1, n.1.trans h2, by rw [o3 ls 2 (by omega) (by decide)]; exact h3, by rw [o5 ls 1 (by omega) (by decide)]; exact h4, by rw [(o2 es hes).1, (o2 es hes).2]; exact h5, fun i hi => ?_, fun q hq => by rw [(n.2 q).1]; exact h7 q hq⟩
  obtain ⟨b, hb, hk⟩ := h6 i hi
  have h13 : gc σ es = 13 := by rcases h5 with k | k <;> omega
  exact ⟨b, by rw [o6 es i h13]; exact hb, hk.o o' n⟩
/-- what a turn's acts rest on -/
def CR (d : Dp) (σ : Sg) (μ : Mu) (x pg mc mk sa ls es : Nat) (Fr : Nat → Nat) (F N Tn Pn : Nat) : Prop := GC σ x pg mc mk sa ls (Fr 0) ∧ GZ σ ∧ GF σ Fr F ∧ GN d σ μ N ls es ∧ GT σ μ Tn Pn sa ∧ GS σ μ Tn Pn mc mk sa
theorem CR.mk {d : Dp} {σ τ : Sg} {μ ν : Mu} {x pg mc mk sa ls es : Nat} {Fr : Nat → Nat} {F N Tn Pn Tm Pm : Nat} (h : CR d σ μ x pg mc mk sa ls es Fr F N Tn Pn) (o : AgO σ τ) (n : AgN μ ν) (t : GT τ ν Tm Pm sa) (s : GS τ ν Tm Pm mc mk sa) : CR d τ ν x pg mc mk sa ls es Fr F N Tm Pm :=
  ⟨h.1.o o, o.z, h.2.2.1.o o, h.2.2.2.1.o h.1.2.2.2.2.1 o n, t, s⟩
def AgS (σ τ : Sg) (mc mk sa : Nat) : Prop := gi τ 300 mk = gi σ 300 mk ∧ gi τ 301 mk = gi σ 301 mk ∧ (∀ i, ap τ sa i = ap σ sa i) ∧ gp τ 205 mc = gp σ 205 mc ∧ gp τ 206 mc = gp σ 206 mc
def AgL (μ ν : Mu) : Prop := (∀ i, mI ν 9 i = mI μ 9 i) ∧ mS ν 813 = mS μ 813 ∧ mS ν 825 = mS μ 825
theorem GS.ag {σ τ : Sg} {μ ν : Mu} {Tn Pn mc mk sa : Nat} (h : GS σ μ Tn Pn mc mk sa) (s : AgS σ τ mc mk sa) (l : AgL μ ν) (hg : ∀ c, gc σ c = 7 → gc τ c = 7 ∧ gi τ 600 c = gi σ 600 c) : GS τ ν Tn Pn mc mk sa := by
  obtain ⟨h1, h2, h3, h4, h5⟩ := h
  obtain ⟨s1, s2, s3, s4, s5⟩ := s
  refine ⟨s1.trans h1, s2.trans h2, fun i hi => ?_, ?_, ?_⟩
  · rw [s3, l.1]; exact (h3 i hi).mo (Nat.le_refl _) hg
  · rw [s4, l.2.1]; exact h4.mo (Nat.le_refl _) hg
  · rw [s5, l.2.2]; exact h5.mo (Nat.le_refl _) hg
/-- a step that touches nothing of this -/
theorem CR.ag {d : Dp} {σ τ : Sg} {μ ν : Mu} {x pg mc mk sa ls es : Nat} {Fr : Nat → Nat} {F N Tn Pn : Nat} (h : CR d σ μ x pg mc mk sa ls es Fr F N Tn Pn) (o : AgO σ τ) (t : AgT σ τ sa) (s : AgS σ τ mc mk sa) (n : AgN μ ν) (m : AgM μ ν) (l : AgL μ ν) : CR d τ ν x pg mc mk sa ls es Fr F N Tn Pn :=
  h.mk o n (h.2.2.2.2.1.ag t m) (h.2.2.2.2.2.ag s l t.g)
