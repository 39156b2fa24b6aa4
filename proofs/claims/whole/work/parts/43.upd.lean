theorem GT.at {σ τ : Sg} {μ ν : Mu} {Tn Pn sa t j : Nat} (h : GT σ μ Tn Pn sa) (ht : gc σ t = 7) (hj : gi σ 600 t = nI j) (hjn : j < Tn) (hc : ∀ a, gc τ a = gc σ a) (h600 : ∀ a, gi τ 600 a = gi σ 600 a) (hf : ∀ a, gc σ a = 7 → a ≠ t → gi τ 601 a = gi σ 601 a ∧ gj τ 602 a = gj σ 602 a ∧ gp τ 603 a = gp σ 603 a ∧ gp τ 604 a = gp σ 604 a ∧ gi τ 605 a = gi σ 605 a) (h6 : ∀ a, gp τ 606 a = gp σ 606 a)
    (hr : ∀ q, gc σ q = 12 → gl τ q = gl σ q ∧ ∀ i, (∀ a, gc σ a = 7 → a ≠ t → gp σ 606 a = some q → ap τ q i = ap σ q i)) (s9 : mS ν 809 = mS μ 809) (s11 : mS ν 811 = mS μ 811) (hm : ∀ i, i ≠ j → mI ν 5 i = mI μ 5 i ∧ mI ν 6 i = mI μ 6 i) (hm4 : ∀ i, mI ν 4 i = mI μ 4 i) (hm7 : ∀ i, mJ ν 7 i = mJ μ 7 i) (hm8 : ∀ i, i ≠ j → i < Tn → mI μ 4 i = 5 → mI μ 5 i ≠ -1 → ∀ k, k < rz μ i → mI ν 8 (rb μ i + k) = mI μ 8 (rb μ i + k)) (hk : Tk τ ν Tn Pn t j) (hz : mI μ 4 j = 5 → mI ν 5 j = mI μ 5 j) : GT τ ν Tn Pn sa := by
  obtain ⟨h1, h2, h3, h4, h5, h6', h7, h8, h9, h10⟩ := h
  have l5 : ∀ i, mI μ 4 i = 5 → mI ν 5 i = mI μ 5 i := fun i e => by
    by_cases q : i = j
    · subst q; exact hz e
    · exact (hm i q).1
  have hg : ∀ c, gc σ c = 7 → gc τ c = 7 ∧ gi τ 600 c = gi σ 600 c := fun c e => ⟨by rw [hc]; exact e, h600 c⟩
  refine ⟨h1, h2, s9.trans h3, s11.trans h4, fun a ha => ?_, fun a b ha hb e => ?_, fun a b q ha hb ea eb => ?_, fun a q ha ea => ?_, fun i k hi hk2 hik ki kj li lj => ?_, fun i hi ki li => ?_⟩
  · rw [hc] at ha
    by_cases e : a = t
    · subst e
      exact ⟨j, hjn, by rw [h600]; exact hj, hk⟩
    · obtain ⟨i, hi, ei, hk'⟩ := h5 a ha
      have hij : i ≠ j := fun q => e (h6' a t ha ht (by rw [ei, hj, q]))
      obtain ⟨f1, f2, f3, f4, f5⟩ := hf a ha e
      refine ⟨i, hi, by rw [h600]; exact ei, ?_⟩
      unfold Tk at hk' ⊢
      rw [f1, f2, f3, f4, f5, h6 a, hm4, (hm i hij).1, (hm i hij).2, hm7]
      refine ⟨hk'.1, ?_⟩
      rcases hk'.2 with k | k | k | k | ⟨k0, z, b, q, k1, k2, k3, k4, k5, k6, k7, k8, k9⟩
      · exact Or.inl k
      · exact Or.inr (Or.inl ⟨k.1, k.2.1.mo (Nat.le_refl _) hg, k.2.2.mo (Nat.le_refl _) hg⟩)
      · exact Or.inr (Or.inr (Or.inl ⟨k.1, k.2.1.mo (Nat.le_refl _) hg, k.2.2⟩))
      · exact Or.inr (Or.inr (Or.inr (Or.inl k)))
      · refine Or.inr (Or.inr (Or.inr (Or.inr ⟨k0, z, b, q, k1, k2, k3, k4, by rw [hc]; exact k5, by rw [(hr q k5).1]; exact k6, k7, k8, fun n hn => ?_⟩)))
        have hz1 : rz μ i = z := by unfold rz; rw [k1, nI_clamp (by omega)]
        have hb1 : rb μ i = b := by unfold rb; rw [k2, lN_i, nI_clamp (by omega)]
        have e8 := hm8 i hij hi k0 (by rw [k1]; exact nI_ne (by omega)) n (by omega)
        rw [hb1] at e8
        rw [(hr q k5).2 n a ha e k4, e8]
        exact (k9 n hn).mo (Nat.le_refl _) hg
  · rw [hc] at ha hb
    rw [h600, h600] at e
    exact h6' a b ha hb e
  · rw [hc] at ha hb
    rw [h6] at ea eb
    exact h7 a b q ha hb ea eb
  · rw [hc] at ha
    rw [h6] at ea
    rw [hc]
    exact h8 a q ha ea
  · rw [hm4] at ki kj
    rw [l5 i ki] at li
    rw [l5 k kj] at lj
    rw [rb_eq (hm7 i), rb_eq (hm7 k), rz_eq (l5 i ki), rz_eq (l5 k kj)]
    exact h9 i k hi hk2 hik ki kj li lj
  · rw [hm4] at ki
    rw [l5 i ki] at li
    rw [rb_eq (hm7 i), rz_eq (l5 i ki)]
    exact h10 i hi ki li
section UPD
variable {d : Dp} {σ : Sg} {μ : Mu} {x pg mc mk sa ls es : Nat} {Fr : Nat → Nat} {F N Tn Pn : Nat}
theorem CR.slot (h : CR d σ μ x pg mc mk sa ls es Fr F N Tn Pn) {i : Nat} {q : Option Nat} {v : Int32} (hp : pr σ Tn q v) : CR d (wp σ sa i q) (uI μ 9 i v) x pg mc mk sa ls es Fr F N Tn Pn := by
  have h12 : gc σ sa = 12 := h.1.2.2.2.2.2.1
  obtain ⟨g1, g2, g3, g4, g5⟩ := h.2.2.2.2.2
  refine h.mk (AgO.wp h.2.1 (by omega)) ⟨rfl, fun _ => ⟨rfl, rfl, rfl, rfl⟩⟩ (h.2.2.2.2.1.ag ⟨fun _ => Iff.rfl, fun _ _ => ⟨rfl, rfl, rfl, rfl, rfl, rfl, rfl⟩, fun p hp2 hne => ⟨rfl, rfl, fun j => by rw [q_ap_wp, if_neg (fun e => hne e.1)]⟩⟩ ⟨rfl, rfl, fun _ => ⟨rfl, rfl, rfl, rfl, rfl⟩⟩) ⟨g1, g2, fun j hj => ?_, g4, g5⟩
  rw [q_ap_wp, q_mI_uI]
  by_cases e : j = i
  · rw [if_pos ⟨rfl, e⟩, if_pos ⟨rfl, e⟩]
    exact hp
  · rw [if_neg (fun q => e q.2), if_neg (fun q => e q.2)]
    exact g3 j hj
theorem CR.held (h : CR d σ μ x pg mc mk sa ls es Fr F N Tn Pn) {q : Option Nat} {v : Int32} (hp : pr σ Tn q v) : CR d (sp σ 205 mc q) (uS μ 813 v) x pg mc mk sa ls es Fr F N Tn Pn := by
  obtain ⟨g1, g2, g3, g4, g5⟩ := h.2.2.2.2.2
  refine h.mk (AgO.sp h.2.1 (by decide)) ⟨rfl, fun _ => ⟨rfl, rfl, rfl, rfl⟩⟩ (h.2.2.2.2.1.ag ⟨fun _ => Iff.rfl, fun _ _ => ⟨rfl, rfl, rfl, rfl, rfl, rfl, rfl⟩, fun p hp2 hne => ⟨rfl, rfl, fun j => rfl⟩⟩ ⟨rfl, rfl, fun _ => ⟨rfl, rfl, rfl, rfl, rfl⟩⟩) ⟨g1, g2, g3, ?_, g5⟩
  rw [q_gp_sp, if_pos ⟨rfl, rfl⟩, q_mS_uS, if_pos rfl]
  exact hp
theorem CR.fld1 (h : CR d σ μ x pg mc mk sa ls es Fr F N Tn Pn) {t j : Nat} (h7 : gc σ t = 7) (h6 : gi σ 600 t = nI j) (hj : j < Tn) (hk : mI μ 4 j = 2 ∨ mI μ 4 j = 3 ∨ mI μ 4 j = 4) (hT : Tk σ μ Tn Pn t j) {q : Option Nat} {v : Int32} (hp : pr σ Tn q v) : CR d (sp σ 603 t q) (uI μ 5 j v) x pg mc mk sa ls es Fr F N Tn Pn := by
  obtain ⟨g1, g2, g3, g4, g5⟩ := h.2.2.2.2.2
  have n5 : mI μ 4 j ≠ 5 := fun e => by rcases hk with k | k | k <;> (rw [k] at e; exact absurd e (by decide))
  have hg : ∀ c, gc σ c = 7 → gc (sp σ 603 t q) c = 7 ∧ gi (sp σ 603 t q) 600 c = gi σ 600 c := fun c e => ⟨e, rfl⟩
  refine h.mk (AgO.sp h.2.1 (by decide)) ⟨rfl, fun _ => ⟨rfl, rfl, rfl, rfl⟩⟩ (h.2.2.2.2.1.at h7 h6 hj (fun _ => rfl) (fun _ => rfl) (fun a _ ha => ⟨rfl, rfl, by rw [q_gp_sp, if_neg (fun e => ha e.2)], rfl, rfl⟩) (fun _ => rfl) (fun p hp2 => ⟨rfl, fun _ _ _ _ _ => rfl⟩) rfl rfl (fun i hi => ⟨by rw [q_mI_uI, if_neg (fun e => hi e.2)], rfl⟩) (fun _ => rfl) (fun _ => rfl) (fun _ _ _ _ _ _ _ => rfl) ?_ (fun e => absurd e n5)) ⟨g1, g2, g3, g4, g5⟩
  have e5 : mI (uI μ 5 j v) 5 j = v := by rw [q_mI_uI, if_pos ⟨rfl, rfl⟩]
  have e3 : gp (sp σ 603 t q) 603 t = q := by rw [q_gp_sp, if_pos ⟨rfl, rfl⟩]
  refine ⟨hT.1, ?_⟩
  rcases hT.2 with k | k | k | k | k
  · exfalso
    rcases k.1 with e | e <;> rcases hk with k | k | k <;> (rw [k] at e; exact absurd e (by decide))
  · exact Or.inr (Or.inl ⟨k.1, by rw [e3, e5]; exact hp, k.2.2⟩)
  · exact Or.inr (Or.inr (Or.inl ⟨k.1, by rw [e3, e5]; exact hp, k.2.2⟩))
  · exact absurd k.1 n5
  · exact absurd k.1 n5
theorem CR.fld2 (h : CR d σ μ x pg mc mk sa ls es Fr F N Tn Pn) {t j : Nat} (h7 : gc σ t = 7) (h6 : gi σ 600 t = nI j) (hj : j < Tn) (hk : mI μ 4 j = 2 ∨ mI μ 4 j = 3) (hT : Tk σ μ Tn Pn t j) {q : Option Nat} {v : Int32} (hp : pr σ Tn q v) : CR d (sp σ 604 t q) (uI μ 6 j v) x pg mc mk sa ls es Fr F N Tn Pn := by
  obtain ⟨g1, g2, g3, g4, g5⟩ := h.2.2.2.2.2
  have n5 : mI μ 4 j ≠ 5 := fun e => by rcases hk with k | k <;> (rw [k] at e; exact absurd e (by decide))
  refine h.mk (AgO.sp h.2.1 (by decide)) ⟨rfl, fun _ => ⟨rfl, rfl, rfl, rfl⟩⟩ (h.2.2.2.2.1.at h7 h6 hj (fun _ => rfl) (fun _ => rfl) (fun a _ ha => ⟨rfl, rfl, rfl, by rw [q_gp_sp, if_neg (fun e => ha e.2)], rfl⟩) (fun _ => rfl) (fun p hp2 => ⟨rfl, fun _ _ _ _ _ => rfl⟩) rfl rfl (fun i hi => ⟨rfl, by rw [q_mI_uI, if_neg (fun e => hi e.2)]⟩) (fun _ => rfl) (fun _ => rfl) (fun _ _ _ _ _ _ _ => rfl) ?_ (fun e => absurd e n5)) ⟨g1, g2, g3, g4, g5⟩
  have e5 : mI (uI μ 6 j v) 6 j = v := by rw [q_mI_uI, if_pos ⟨rfl, rfl⟩]
  have e3 : gp (sp σ 604 t q) 604 t = q := by rw [q_gp_sp, if_pos ⟨rfl, rfl⟩]
  refine ⟨hT.1, ?_⟩
  rcases hT.2 with k | k | k | k | k
  · exfalso
    rcases k.1 with e | e <;> rcases hk with k | k <;> (rw [k] at e; exact absurd e (by decide))
  · exact Or.inr (Or.inl ⟨k.1, k.2.1, by rw [e3, e5]; exact hp⟩)
  · exfalso
    rcases hk with k2 | k2 <;> exact absurd (k2.symm.trans k.1) (by decide)
  · exact absurd k.1 n5
  · exact absurd k.1 n5
end UPD
