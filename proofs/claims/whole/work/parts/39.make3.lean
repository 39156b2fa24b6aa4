section MKE
variable {d : Dp} {σ τ : Sg} {μ : Mu} {x pg mc mk sa ls es : Nat} {Fr : Nat → Nat} {F N Tn Pn : Nat}
theorem CR.mkV (h : CR d σ μ x pg mc mk sa ls es Fr F N Tn Pn) (hT : Tn < 50000) {k : Int32} (v : Int64) (a b : Int32) (hk : k = 1 ∨ k = 6) : CR d (sj (nT σ mk Tn k) 602 (hs σ) v) (mkμ μ Tn k v a b) x pg mc mk sa ls es Fr F N (Tn + 1) Pn := by
  obtain ⟨hC, hZ, hF, hN, hG, hS⟩ := id h
  have nmk : mk ≠ hs σ := hZ.ne (by have := hC.2.2.2.1; omega)
  obtain ⟨a1, a2, a3, a4, a5, a6, a7⟩ := nT_at (σ := σ) (Tn := Tn) (k := k) nmk
  refine h.make hT (AgO.sj (nT_z hZ) (by decide)) (fun c => by rw [q_gc_sj]) (fun f c => by rw [q_gi_sj]) (fun c hc => by rw [q_gj_sj, if_neg (fun q => hc q.2)]) (fun f c _ => by rw [q_gp_sj]) (fun c => by rw [q_gl_sj]; rfl) (fun c i => by rw [q_ap_sj]; rfl) (by rw [q_gp_sj]; exact a5) ?_ (Or.inl (by rcases hk with rfl | rfl <;> decide))
  refine ⟨by rw [mk_I, q_gi_sj, a2]; simp, Or.inl ⟨by rw [mk_I]; simp; exact hk, ?_, by rw [q_gp_sj]; exact a3, by rw [q_gp_sj]; exact a4⟩⟩
  rw [q_gj_sj, mk_J]
  simp
theorem CR.mkF (h : CR d σ μ x pg mc mk sa ls es Fr F N Tn Pn) (hT : Tn < 50000) {k : Int32} {q1 q2 : Option Nat} {a b : Int32} (h1 : pr σ Tn q1 a) (hk : ((k = 2 ∨ k = 3) ∧ pr σ Tn q2 b) ∨ (k = 4 ∧ q2 = none)) : CR d (sp (sp (nT σ mk Tn k) 603 (hs σ) q1) 604 (hs σ) q2) (mkμ μ Tn k 0 a b) x pg mc mk sa ls es Fr F N (Tn + 1) Pn := by
  obtain ⟨hC, hZ, hF, hN, hG, hS⟩ := id h
  have hmk : gc σ mk = 4 := hC.2.2.2.1
  have nmk : mk ≠ hs σ := hZ.ne (by omega)
  obtain ⟨a1, a2, a3, a4, a5, a6, a7⟩ := nT_at (σ := σ) (Tn := Tn) (k := k) nmk
  have hg : ∀ c, gc σ c = 7 → gc (sp (sp (nT σ mk Tn k) 603 (hs σ) q1) 604 (hs σ) q2) c = 7 ∧ gi (sp (sp (nT σ mk Tn k) 603 (hs σ) q1) 604 (hs σ) q2) 600 c = gi σ 600 c := fun c e => by
    have hn : c ≠ hs σ := hZ.ne (by omega)
    exact ⟨by rw [q_gc_sp, q_gc_sp, nT_gc, if_neg hn]; exact e, by rw [q_gi_sp, q_gi_sp]; exact (nT_old (Tn := Tn) (k := k) hmk e hn).1⟩
  have e3 : gp (sp (sp (nT σ mk Tn k) 603 (hs σ) q1) 604 (hs σ) q2) 603 (hs σ) = q1 := by rw [q_gp_sp, if_neg (fun q => absurd q.1 (by decide)), q_gp_sp, if_pos ⟨rfl, rfl⟩]
  have e4 : gp (sp (sp (nT σ mk Tn k) 603 (hs σ) q1) 604 (hs σ) q2) 604 (hs σ) = q2 := by rw [q_gp_sp, if_pos ⟨rfl, rfl⟩]
  refine h.make hT ((AgO.sp (nT_z hZ) (by decide)).tr (AgO.sp (show GZ (sp (nT σ mk Tn k) 603 (hs σ) q1) from nT_z (mk := mk) (Tn := Tn) (k := k) hZ) (by decide))) (fun c => by rw [q_gc_sp, q_gc_sp]) (fun f c => by rw [q_gi_sp, q_gi_sp]) (fun c hc => by rw [q_gj_sp, q_gj_sp]) (fun f c hc => by rw [q_gp_sp, if_neg (fun q => hc q.2), q_gp_sp, if_neg (fun q => hc q.2)]) (fun c => by rw [q_gl_sp, q_gl_sp]; rfl) (fun c i => by rw [q_ap_sp, q_ap_sp]; rfl) (by rw [q_gp_sp, if_neg (fun q => absurd q.1 (by decide)), q_gp_sp, if_neg (fun q => absurd q.1 (by decide))]; exact a5) ?_ (Or.inl (by rcases hk with ⟨rfl | rfl, -⟩ | ⟨rfl, -⟩ <;> decide))
  refine ⟨by rw [mk_I, q_gi_sp, q_gi_sp, a2]; simp, ?_⟩
  rcases hk with ⟨hk, h2⟩ | ⟨hk, h2⟩
  · refine Or.inr (Or.inl ⟨by rw [mk_I]; simp; exact hk, ?_, ?_⟩)
    · rw [e3, mk_I]; simp; exact h1.mo (by omega) hg
    · rw [e4, mk_I]; simp; exact h2.mo (by omega) hg
  · refine Or.inr (Or.inr (Or.inl ⟨by rw [mk_I]; simp; exact hk, ?_, by rw [e4]; exact h2⟩))
    rw [e3, mk_I]; simp; exact h1.mo (by omega) hg
theorem CR.mkR (h : CR d σ μ x pg mc mk sa ls es Fr F N Tn Pn) (hT : Tn < 50000) : CR d (nT σ mk Tn 5) (mkμ μ Tn 5 0 (-1) (-1)) x pg mc mk sa ls es Fr F N (Tn + 1) Pn := by
  obtain ⟨hC, hZ, hF, hN, hG, hS⟩ := id h
  have nmk : mk ≠ hs σ := hZ.ne (by have := hC.2.2.2.1; omega)
  obtain ⟨a1, a2, a3, a4, a5, a6, a7⟩ := nT_at (σ := σ) (Tn := Tn) (k := 5) nmk
  refine h.make hT (AgO.rf (nT_z hZ)) (fun _ => rfl) (fun _ _ => rfl) (fun c hc => rfl) (fun _ _ _ => rfl) (fun _ => rfl) (fun _ _ => rfl) a5 ?_ (Or.inr rfl)
  refine ⟨by rw [mk_I, a2]; simp, Or.inr (Or.inr (Or.inr (Or.inl ⟨by rw [mk_I]; simp, by rw [mk_I]; simp, by rw [mk_I]; simp, a5⟩)))⟩
end MKE
