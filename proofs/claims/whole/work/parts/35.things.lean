theorem Tk.mo {σ τ : Sg} {μ ν : Mu} {Tn Tm Pn Pm a i : Nat} (h : Tk σ μ Tn Pn a i) (h1 : gi τ 601 a = gi σ 601 a) (h2 : gj τ 602 a = gj σ 602 a) (h3 : gp τ 603 a = gp σ 603 a) (h4 : gp τ 604 a = gp σ 604 a) (h6 : gp τ 606 a = gp σ 606 a) (h5 : gi τ 605 a = gi σ 605 a)
    (hq : ∀ q, gp σ 606 a = some q → gc σ q = 12 → gc τ q = gc σ q ∧ gl τ q = gl σ q ∧ ∀ j, ap τ q j = ap σ q j) (m4 : mI ν 4 i = mI μ 4 i) (m5 : mI ν 5 i = mI μ 5 i) (m6 : mI ν 6 i = mI μ 6 i) (m7 : mJ ν 7 i = mJ μ 7 i) (m8 : ∀ j, j < Pn → mI ν 8 j = mI μ 8 j) (hn : Tn ≤ Tm) (hp : Pn ≤ Pm) (hg : ∀ c, gc σ c = 7 → gc τ c = 7 ∧ gi τ 600 c = gi σ 600 c) : Tk τ ν Tm Pm a i := by
  unfold Tk at h ⊢
  rw [h1, h2, h3, h4, h5, h6, m4, m5, m6, m7]
  refine ⟨h.1, ?_⟩
  rcases h.2 with k | k | k | k | ⟨k0, z, b, q, k1, k2, k3, k4, k5, k6, k7, k8, k9⟩
  · exact Or.inl k
  · exact Or.inr (Or.inl ⟨k.1, k.2.1.mo hn hg, k.2.2.mo hn hg⟩)
  · exact Or.inr (Or.inr (Or.inl ⟨k.1, k.2.1.mo hn hg, k.2.2⟩))
  · exact Or.inr (Or.inr (Or.inr (Or.inl k)))
  · obtain ⟨q1, q2, q3⟩ := hq q k4 k5
    refine Or.inr (Or.inr (Or.inr (Or.inr ⟨k0, z, b, q, k1, k2, by omega, k4, by rw [q1]; exact k5, by rw [q2]; exact k6, k7, k8, fun j hj => ?_⟩)))
    rw [q3, m8 _ (by omega)]
    exact (k9 j hj).mo hn hg
/-- THINGS stand as they were -/
def AgT (σ τ : Sg) (sa : Nat) : Prop := (∀ a, gc τ a = 7 ↔ gc σ a = 7) ∧ (∀ a, gc σ a = 7 → gi τ 600 a = gi σ 600 a ∧ gi τ 601 a = gi σ 601 a ∧ gj τ 602 a = gj σ 602 a ∧ gp τ 603 a = gp σ 603 a ∧ gp τ 604 a = gp σ 604 a ∧ gi τ 605 a = gi σ 605 a ∧ gp τ 606 a = gp σ 606 a) ∧ (∀ q, gc σ q = 12 → q ≠ sa → gc τ q = gc σ q ∧ gl τ q = gl σ q ∧ ∀ j, ap τ q j = ap σ q j)
def AgM (μ ν : Mu) : Prop := mS ν 809 = mS μ 809 ∧ mS ν 811 = mS μ 811 ∧ (∀ i, mI ν 4 i = mI μ 4 i ∧ mI ν 5 i = mI μ 5 i ∧ mI ν 6 i = mI μ 6 i ∧ mI ν 8 i = mI μ 8 i ∧ mJ ν 7 i = mJ μ 7 i)
theorem AgT.g {σ τ : Sg} {sa : Nat} (h : AgT σ τ sa) : ∀ c, gc σ c = 7 → gc τ c = 7 ∧ gi τ 600 c = gi σ 600 c := fun c hc => ⟨(h.1 c).mpr hc, (h.2.1 c hc).1⟩
theorem rb_eq {μ ν : Mu} {i : Nat} (h : mJ ν 7 i = mJ μ 7 i) : rb ν i = rb μ i := by unfold rb; rw [h]
theorem rz_eq {μ ν : Mu} {i : Nat} (h : mI ν 5 i = mI μ 5 i) : rz ν i = rz μ i := by unfold rz; rw [h]
theorem GT.ag {σ τ : Sg} {μ ν : Mu} {Tn Pn sa : Nat} (h : GT σ μ Tn Pn sa) (ht : AgT σ τ sa) (hm : AgM μ ν) : GT τ ν Tn Pn sa := by
  obtain ⟨h1, h2, h3, h4, h5, h6, h7, h8, h9, h10⟩ := h
  have hm3 := hm.2.2
  refine ⟨h1, h2, hm.1.trans h3, hm.2.1.trans h4, fun a ha => ?_, fun a b ha hb e => ?_, fun a b q ha hb ea eb => ?_, fun a q ha ea => ?_, fun i j hi hj hij ki kj li lj => ?_, fun i hi ki li => ?_⟩
  · have ha' := (ht.1 a).mp ha
    obtain ⟨i, hi, e, hk⟩ := h5 a ha'
    obtain ⟨f0, f1, f2, f3, f4, f5, f6⟩ := ht.2.1 a ha'
    refine ⟨i, hi, f0.trans e, hk.mo f1 f2 f3 f4 f6 f5 (fun q hq hc => ?_) (hm3 i).1 (hm3 i).2.1 (hm3 i).2.2.1 (hm3 i).2.2.2.2 (fun j _ => (hm3 j).2.2.2.1) (Nat.le_refl _) (Nat.le_refl _) ht.g⟩
    exact ht.2.2 q hc (h8 a q ha' hq).1
  · have ha' := (ht.1 a).mp ha
    have hb' := (ht.1 b).mp hb
    rw [(ht.2.1 a ha').1, (ht.2.1 b hb').1] at e
    exact h6 a b ha' hb' e
  · have ha' := (ht.1 a).mp ha
    have hb' := (ht.1 b).mp hb
    rw [(ht.2.1 a ha').2.2.2.2.2.2] at ea
    rw [(ht.2.1 b hb').2.2.2.2.2.2] at eb
    exact h7 a b q ha' hb' ea eb
  · have ha' := (ht.1 a).mp ha
    rw [(ht.2.1 a ha').2.2.2.2.2.2] at ea
    obtain ⟨e1, e2⟩ := h8 a q ha' ea
    exact ⟨e1, by rw [(ht.2.2 q e2 e1).1]; exact e2⟩
  · rw [(hm3 i).1] at ki
    rw [(hm3 j).1] at kj
    rw [(hm3 i).2.1] at li
    rw [(hm3 j).2.1] at lj
    rw [rb_eq (hm3 i).2.2.2.2, rb_eq (hm3 j).2.2.2.2, rz_eq (hm3 i).2.1, rz_eq (hm3 j).2.1]
    exact h9 i j hi hj hij ki kj li lj
  · rw [(hm3 i).1] at ki
    rw [(hm3 i).2.1] at li
    rw [rb_eq (hm3 i).2.2.2.2, rz_eq (hm3 i).2.1]
    exact h10 i hi ki li
/-- one THING more, at a0 -/
theorem GT.new {σ τ : Sg} {μ ν : Mu} {Tn Pn Pm sa a0 : Nat} (h : GT σ μ Tn Pn sa) (hT : Tn < 50000) (hP : Pn ≤ Pm) (hPm : Pm ≤ 20000) (ha0 : gc σ a0 ≠ 7) (hc : ∀ a, gc τ a = 7 ↔ (gc σ a = 7 ∨ a = a0)) (hf : ∀ a, gc σ a = 7 → gi τ 600 a = gi σ 600 a ∧ gi τ 601 a = gi σ 601 a ∧ gj τ 602 a = gj σ 602 a ∧ gp τ 603 a = gp σ 603 a ∧ gp τ 604 a = gp σ 604 a ∧ gi τ 605 a = gi σ 605 a ∧ gp τ 606 a = gp σ 606 a)
    (hr : ∀ q, gc σ q = 12 → gc τ q = gc σ q ∧ gl τ q = gl σ q ∧ ∀ j, ap τ q j = ap σ q j) (hn : gi τ 600 a0 = nI Tn) (hq : ∀ q, gp τ 606 a0 = some q → gc σ q ≠ 12 ∧ q ≠ sa ∧ gc τ q = 12) (s9 : mS ν 809 = nI (Tn + 1)) (s11 : mS ν 811 = nI Pm) (hm : ∀ i, i < Tn → mI ν 4 i = mI μ 4 i ∧ mI ν 5 i = mI μ 5 i ∧ mI ν 6 i = mI μ 6 i ∧ mJ ν 7 i = mJ μ 7 i) (hm8 : ∀ j, j < Pn → mI ν 8 j = mI μ 8 j) (hk : Tk τ ν (Tn + 1) Pm a0 Tn) (hd : mI ν 4 Tn = 5 → mI ν 5 Tn ≠ -1 → Pn ≤ rb ν Tn ∧ rb ν Tn + rz ν Tn ≤ Pm) : GT τ ν (Tn + 1) Pm sa := by
  obtain ⟨h1, h2, h3, h4, h5, h6, h7, h8, h9, h10⟩ := h
  have old : ∀ a, gc σ a = 7 → ∃ i, i < Tn ∧ gi σ 600 a = nI i ∧ gi τ 600 a = nI i ∧ Tk σ μ Tn Pn a i := fun a ha => by
    obtain ⟨i, hi, e, k⟩ := h5 a ha
    exact ⟨i, hi, e, (hf a ha).1.trans e, k⟩
  have hg : ∀ c, gc σ c = 7 → gc τ c = 7 ∧ gi τ 600 c = gi σ 600 c := fun c hc' => ⟨(hc c).mpr (Or.inl hc'), (hf c hc').1⟩
  refine ⟨by omega, hPm, s9, s11, fun a ha => ?_, fun a b ha hb e => ?_, fun a b q ha hb ea eb => ?_, fun a q ha ea => ?_, fun i j hi hj hij ki kj li lj => ?_, fun i hi ki li => ?_⟩
  · rcases (hc a).mp ha with ha' | ha'
    · obtain ⟨i, hi, -, e, k⟩ := old a ha'
      obtain ⟨f0, f1, f2, f3, f4, f5, f6⟩ := hf a ha'
      obtain ⟨m4, m5, m6, m7⟩ := hm i hi
      exact ⟨i, by omega, e, k.mo f1 f2 f3 f4 f6 f5 (fun q _ hc2 => hr q hc2) m4 m5 m6 m7 hm8 (by omega) hP hg⟩
    · subst ha'
      exact ⟨Tn, by omega, hn, hk⟩
  · rcases (hc a).mp ha with ha' | ha' <;> rcases (hc b).mp hb with hb' | hb'
    · rw [(hf a ha').1, (hf b hb').1] at e
      exact h6 a b ha' hb' e
    · subst hb'
      obtain ⟨i, hi, -, e2, -⟩ := old a ha'
      rw [e2, hn, nI_eq (by omega) (by omega)] at e
      omega
    · subst ha'
      obtain ⟨i, hi, -, e2, -⟩ := old b hb'
      rw [e2, hn, nI_eq (by omega) (by omega)] at e
      omega
    · rw [ha', hb']
  · have key : ∀ c, gc σ c = 7 → gp τ 606 c = some q → gp τ 606 a0 = some q → False := fun c hc' e1 e2 => by
      rw [(hf c hc').2.2.2.2.2.2] at e1
      exact (hq q e2).1 (h8 c q hc' e1).2
    rcases (hc a).mp ha with ha' | ha' <;> rcases (hc b).mp hb with hb' | hb'
    · rw [(hf a ha').2.2.2.2.2.2] at ea
      rw [(hf b hb').2.2.2.2.2.2] at eb
      exact h7 a b q ha' hb' ea eb
    · subst hb'
      exact (key a ha' ea eb).elim
    · subst ha'
      exact (key b hb' eb ea).elim
    · rw [ha', hb']
  · rcases (hc a).mp ha with ha' | ha'
    · rw [(hf a ha').2.2.2.2.2.2] at ea
      obtain ⟨e1, e2⟩ := h8 a q ha' ea
      exact ⟨e1, by rw [(hr q e2).1]; exact e2⟩
    · subst ha'
      exact (hq q ea).2
  · by_cases hi' : i = Tn <;> by_cases hj' : j = Tn
    · omega
    · subst hi'
      obtain ⟨m4, m5, m6, m7⟩ := hm j (by omega)
      rw [m4] at kj
      rw [m5] at lj
      right
      rw [rb_eq m7, rz_eq m5]
      have := (hd ki li).1
      have := h10 j (by omega) kj lj
      omega
    · subst hj'
      obtain ⟨m4, m5, m6, m7⟩ := hm i (by omega)
      rw [m4] at ki
      rw [m5] at li
      left
      rw [rb_eq m7, rz_eq m5]
      have := (hd kj lj).1
      have := h10 i (by omega) ki li
      omega
    · obtain ⟨m4, m5, m6, m7⟩ := hm i (by omega)
      obtain ⟨n4, n5, n6, n7⟩ := hm j (by omega)
      rw [m4] at ki
      rw [n4] at kj
      rw [m5] at li
      rw [n5] at lj
      rw [rb_eq m7, rz_eq m5, rb_eq n7, rz_eq n5]
      exact h9 i j (by omega) (by omega) hij ki kj li lj
  · by_cases hi' : i = Tn
    · subst hi'
      exact (hd ki li).2
    · obtain ⟨m4, m5, m6, m7⟩ := hm i (by omega)
      rw [m4] at ki
      rw [m5] at li
      rw [rb_eq m7, rz_eq m5]
      have := h10 i (by omega) ki li
      omega
