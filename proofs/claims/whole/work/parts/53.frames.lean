/-- a frame more, innermost -/
def wnσ (σ : Sg) (f F : Nat) : Sg := sp (si (sp (nw σ 2) 100 (hs σ) (some f)) 101 (hs σ) (nI (F + 1))) 102 f (some (hs σ))
def exF (Fr : Nat → Nat) (F a : Nat) : Nat → Nat := fun i => if i = F + 1 then a else Fr i
section WN
variable {d : Dp} {σ : Sg} {μ : Mu} {x pg mc mk sa ls es : Nat} {Fr : Nat → Nat} {F N Tn Pn : Nat}
theorem wn_gc (σ : Sg) (f F a : Nat) : gc (wnσ σ f F) a = if a = hs σ then 2 else gc σ a := by unfold wnσ; rw [q_gc_sp, q_gc_si, q_gc_sp, q_gc_nw]
theorem wn_gi (σ : Sg) (f F g a : Nat) (h : a ≠ hs σ) : gi (wnσ σ f F) g a = gi σ g a := by unfold wnσ; rw [q_gi_sp, q_gi_si, if_neg (fun q => h q.2), q_gi_sp, q_gi_nw, if_neg h]
theorem wn_gj (σ : Sg) (f F g a : Nat) (h : a ≠ hs σ) : gj (wnσ σ f F) g a = gj σ g a := by unfold wnσ; rw [q_gj_sp, q_gj_si, q_gj_sp, q_gj_nw, if_neg h]
theorem wn_gp (σ : Sg) (f F g a : Nat) (h : a ≠ hs σ) (hg : g ≠ 102) : gp (wnσ σ f F) g a = gp σ g a := by unfold wnσ; rw [q_gp_sp, if_neg (fun q => hg q.1), q_gp_si, q_gp_sp, if_neg (fun q => h q.2), q_gp_nw, if_neg h]
theorem wn_gl (σ : Sg) (f F a : Nat) : gl (wnσ σ f F) a = gl σ a := by unfold wnσ; rw [q_gl_sp, q_gl_si, q_gl_sp, q_gl_nw]
theorem wn_ap (σ : Sg) (f F a i : Nat) : ap (wnσ σ f F) a i = ap σ a i := by unfold wnσ; rw [q_ap_sp, q_ap_si, q_ap_sp, q_ap_nw]
theorem wn_hs (σ : Sg) (f F : Nat) : hs (wnσ σ f F) = hs σ + 1 := by unfold wnσ; rw [q_hs_sp, q_hs_si, q_hs_sp, q_hs_nw]
theorem CR.within (h : CR d σ μ x pg mc mk sa ls es Fr F N Tn Pn) (hF : F < 200) : CR d (wnσ σ (Fr F) F) μ x pg mc mk sa ls es (exF Fr F (hs σ)) (F + 1) N Tn Pn := by
  obtain ⟨hC, hZ, hFr, hN, hG, hS⟩ := h
  have ne : ∀ {a : Nat}, gc σ a ≠ 0 → a ≠ hs σ := fun ha => hZ.ne ha
  have cc : ∀ {a : Nat}, gc σ a ≠ 0 → gc (wnσ σ (Fr F) F) a = gc σ a := fun ha => by rw [wn_gc, if_neg (ne ha)]
  have h0 := hZ.hs0
  refine ⟨?_, ?_, ?_, ?_, ?_, ?_⟩
  · obtain ⟨c1, c2, c3, c4, c5, c6, c7, c8, c9, c10, c11, c12, c13, c14⟩ := hC
    have nx : x ≠ hs σ := ne (by omega)
    have nm : mc ≠ hs σ := ne (by omega)
    have np : pg ≠ hs σ := ne (by omega)
    refine ⟨by rw [cc (by omega)]; exact c1, by rw [cc (by omega)]; exact c2, by rw [cc (by omega)]; exact c3, by rw [cc (by omega)]; exact c4, by rw [cc (by omega)]; exact c5, by rw [cc (by omega)]; exact c6, by rw [wn_gl]; exact c7, by rw [wn_gp _ _ _ _ _ nx (by decide)]; exact c8, by rw [wn_gp _ _ _ _ _ nx (by decide)]; exact c9, by rw [wn_gp _ _ _ _ _ nm (by decide)]; exact c10, by rw [wn_gp _ _ _ _ _ nm (by decide)]; exact c11, by rw [wn_gp _ _ _ _ _ nm (by decide)]; exact c12, ?_, by rw [wn_gp _ _ _ _ _ np (by decide)]; exact c14⟩
    rw [wn_gp _ _ _ _ _ nm (by decide), c13]
    unfold exF
    rw [if_neg (by omega)]
  · intro a ha
    rw [wn_gc] at ha
    rw [wn_hs]
    by_cases e : a = hs σ
    · omega
    · rw [if_neg e] at ha
      have := hZ a ha
      omega
  · obtain ⟨f1, f2, f3⟩ := hFr
    have fn : ∀ i, i ≤ F → Fr i ≠ hs σ := fun i hi => ne (by have := (f2 i hi).1; omega)
    have inj : ∀ i, i < F → Fr i ≠ Fr F := fun i hi e => by
      have q1 := (f2 i (by omega)).2.1
      have q2 := (f2 F (by omega)).2.1
      rw [e, q2, nI_eq (by omega) (by omega)] at q1
      omega
    refine ⟨by omega, fun i hi => ?_, fun i hi => ?_⟩
    · unfold exF
      by_cases e : i = F + 1
      · rw [if_pos e, if_neg (by omega)]
        refine ⟨by rw [wn_gc, if_pos rfl], ?_, ?_⟩
        · unfold wnσ
          rw [q_gi_sp, q_gi_si, if_pos ⟨rfl, rfl⟩, e]
        · unfold wnσ
          rw [q_gp_sp, if_neg (fun q => fn F (by omega) q.2.symm), q_gp_si, q_gp_sp, if_neg (fun q => absurd q.1 (by decide)), q_gp_nw, if_pos rfl]
      · have hi' : i ≤ F := by omega
        rw [if_neg e, if_pos (by omega), cc (by have := (f2 i hi').1; omega), wn_gi _ _ _ _ _ (fn i hi')]
        refine ⟨(f2 i hi').1, (f2 i hi').2.1, ?_⟩
        by_cases e2 : i = F
        · rw [if_pos (by omega), e2]
          unfold wnσ
          rw [q_gp_sp, if_pos ⟨rfl, rfl⟩]
        · rw [if_neg (by omega)]
          unfold wnσ
          rw [q_gp_sp, if_neg (fun q => inj i (by omega) q.2), q_gp_si, q_gp_sp, if_neg (fun q => absurd q.1 (by decide)), q_gp_nw, if_neg (fn i hi')]
          have := (f2 i hi').2.2
          rw [if_pos (by omega)] at this
          exact this
    · unfold exF
      by_cases e : i = F
      · rw [if_pos (by omega), if_neg (by omega), e]
        unfold wnσ
        rw [q_gp_sp, if_neg (fun q => absurd q.1 (by decide)), q_gp_si, q_gp_sp, if_pos ⟨rfl, rfl⟩]
      · rw [if_neg (by omega), if_neg (by omega), wn_gp _ _ _ _ _ (fn (i + 1) (by omega)) (by decide)]
        exact f3 i (by omega)
  · obtain ⟨n1, n2, n3, n4, n5, n6, n7⟩ := hN
    have hls : gc σ ls = 1 := hC.2.2.2.2.1
    have nl : ls ≠ hs σ := ne (by omega)
    have hes : gc σ es ≠ 0 := by rcases n5 with k | k <;> omega
    refine ⟨n1, n2, by rw [wn_gi _ _ _ _ _ nl]; exact n3, by rw [wn_gp _ _ _ _ _ nl (by decide)]; exact n4, by rw [cc hes, wn_gl]; exact n5, fun i hi => ?_, n7⟩
    obtain ⟨b, hb, hk1, hk2, o, hk⟩ := n6 i hi
    have nb : b ≠ hs σ := ne (by omega)
    refine ⟨b, by rw [wn_ap]; exact hb, by rw [cc (by omega)]; exact hk1, by rw [wn_gi _ _ _ _ _ nb]; exact hk2, o, ?_⟩
    rw [wn_gi _ _ _ _ _ nb, wn_gi _ _ _ _ _ nb, wn_gi _ _ _ _ _ nb, wn_gi _ _ _ _ _ nb, wn_gj _ _ _ _ _ nb]
    exact hk
  · refine hG.ag ⟨fun a => ?_, fun a ha => ?_, fun q hq _ => ?_⟩ ⟨rfl, rfl, fun _ => ⟨rfl, rfl, rfl, rfl, rfl⟩⟩
    · rw [wn_gc]
      by_cases e : a = hs σ
      · rw [if_pos e, e]; omega
      · rw [if_neg e]
    · have na : a ≠ hs σ := ne (by omega)
      exact ⟨wn_gi _ _ _ _ _ na, wn_gi _ _ _ _ _ na, wn_gj _ _ _ _ _ na, wn_gp _ _ _ _ _ na (by decide), wn_gp _ _ _ _ _ na (by decide), wn_gi _ _ _ _ _ na, wn_gp _ _ _ _ _ na (by decide)⟩
    · exact ⟨cc (by omega), wn_gl .., wn_ap _ _ _ _⟩
  · have nm : mc ≠ hs σ := ne (by have := hC.2.1; omega)
    have nk : mk ≠ hs σ := ne (by have := hC.2.2.2.1; omega)
    exact hS.ag ⟨wn_gi _ _ _ _ _ nk, wn_gi _ _ _ _ _ nk, fun i => wn_ap .., wn_gp _ _ _ _ _ nm (by decide), wn_gp _ _ _ _ _ nm (by decide)⟩ ⟨fun _ => rfl, rfl, rfl⟩ (fun c hc => ⟨by rw [cc (by omega)]; exact hc, wn_gi _ _ _ _ _ (ne (by omega))⟩)
/-- 'within', at DEPTH D -/
theorem ce_within (h : CR d σ μ x pg mc mk sa ls es Fr F N Tn Pn) {D : Nat} (hD : D ≤ F) (h2 : D < 200) : ∃ τ Fr' F', ex_X0_within d σ (Fr D) = some (some (Fr' (D + 1)), τ, F' - F, 10 * (F' - F)) ∧ CR d τ μ x pg mc mk sa ls es Fr' F' N Tn Pn ∧ D + 1 ≤ F' ∧ F ≤ F' ∧ (∀ i, i ≤ D → Fr' i = Fr i) ∧ (∀ a, gc σ a ≠ 0 → gc τ a = gc σ a) ∧ (∀ g a, gc σ a ≠ 0 → gi τ g a = gi σ g a) ∧ (∀ g a, gc σ a ≠ 0 → gj τ g a = gj σ g a) ∧ (∀ g a, gc σ a ≠ 0 → g ≠ 102 → gp τ g a = gp σ g a) ∧ (∀ a i, ap τ a i = ap σ a i) := by
  obtain ⟨f1, f2, f3⟩ := h.2.2.1
  obtain ⟨k1, k2, k3⟩ := f2 D hD
  have hZ := h.2.1
  by_cases e : D < F
  · refine ⟨σ, Fr, F, ?_, h, by omega, by omega, fun _ _ => rfl, fun _ _ => rfl, fun _ _ _ => rfl, fun _ _ _ => rfl, fun _ _ _ _ => rfl, fun _ _ => rfl⟩
    rw [if_pos e] at k3
    unfold ex_X0_within
    rw [if_pos k1, k3, if_neg (by simp), Nat.sub_self]
  · have eD : D = F := by omega
    subst eD
    rw [if_neg e] at k3
    have nD : Fr D ≠ hs σ := hZ.ne (by omega)
    refine ⟨wnσ σ (Fr D) D, exF Fr D (hs σ), D + 1, ?_, h.within h2, by omega, by omega, fun i hi => by unfold exF; rw [if_neg (by omega)], fun a ha => by rw [wn_gc, if_neg (hZ.ne ha)], fun g a ha => wn_gi _ _ _ _ _ (hZ.ne ha), fun g a ha => wn_gj _ _ _ _ _ (hZ.ne ha), fun g a ha hg => wn_gp _ _ _ _ _ (hZ.ne ha) hg, fun a i => wn_ap ..⟩
    unfold ex_X0_within ex_X0_init
    rw [if_pos k1, k3, if_pos rfl, if_pos (by rw [q_gc_nw, if_neg nD]; exact k1), if_pos (by rw [q_gc_nw, if_pos rfl])]
    simp only [b2_some]
    rw [if_pos (by rw [q_gc_si, q_gc_sp, q_gc_nw, if_neg nD]; exact k1), q_gp_sp, if_pos ⟨rfl, rfl⟩, q_gi_nw, if_neg nD, k2, nI_1, show D + 1 - D = 1 by omega]
    unfold exF
    rw [if_pos rfl]
    rfl
end WN
