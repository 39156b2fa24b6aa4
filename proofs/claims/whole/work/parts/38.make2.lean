section MKE
variable {d : Dp} {σ τ : Sg} {μ : Mu} {x pg mc mk sa ls es : Nat} {Fr : Nat → Nat} {F N Tn Pn : Nat}
/-- any THING without PLACES: what lies at the new address is said by Tk -/
theorem CR.make (h : CR d σ μ x pg mc mk sa ls es Fr F N Tn Pn) (hT : Tn < 50000) {k : Int32} {v : Int64} {a b : Int32} (o : AgO (nT σ mk Tn k) τ) (hc : ∀ c, gc τ c = gc (nT σ mk Tn k) c) (hi : ∀ f c, gi τ f c = gi (nT σ mk Tn k) f c) (hj : ∀ c, c ≠ hs σ → gj τ 602 c = gj (nT σ mk Tn k) 602 c) (hp : ∀ f c, c ≠ hs σ → gp τ f c = gp (nT σ mk Tn k) f c) (hl : ∀ c, gl τ c = gl σ c) (ha : ∀ c i, ap τ c i = ap σ c i) (h6 : gp τ 606 (hs σ) = none) (hk : Tk τ (mkμ μ Tn k v a b) (Tn + 1) Pn (hs σ) Tn) (hr : k ≠ 5 ∨ a = -1) : CR d τ (mkμ μ Tn k v a b) x pg mc mk sa ls es Fr F N (Tn + 1) Pn := by
  obtain ⟨hC, hZ, hF, hN, hG, hS⟩ := id h
  have hmk : gc σ mk = 4 := hC.2.2.2.1
  have hmc : gc σ mc = 3 := hC.2.1
  have nmk : mk ≠ hs σ := hZ.ne (by omega)
  have nmc : mc ≠ hs σ := hZ.ne (by omega)
  have h0 := hZ.hs0
  have gcn : ∀ c, gc τ c = if c = hs σ then 7 else gc σ c := fun c => by rw [hc]; rfl
  have old : ∀ c, gc σ c = 7 → c ≠ hs σ := fun c e => hZ.ne (by omega)
  have hg : ∀ c, gc σ c = 7 → gc τ c = 7 ∧ gi τ 600 c = gi σ 600 c := fun c e => ⟨by rw [gcn, if_neg (old c e)]; exact e, by rw [hi]; exact (nT_old hmk e (old c e)).1⟩
  obtain ⟨a1, a2, a3, a4, a5, a6, a7⟩ := nT_at (σ := σ) (Tn := Tn) (k := k) nmk
  refine h.mk ((nT_o hZ).tr o) (mk_N ..) ?_ ?_
  · refine hG.new (a0 := hs σ) hT (Nat.le_refl _) hG.2.1 (by omega) (fun c => ?_) (fun c e => ?_) (fun q e => ?_) (by rw [hi]; exact a1) (fun q e => by rw [h6] at e; cases e) (by rw [mk_S]; simp) (by rw [mk_S]; exact hG.2.2.2.1) (fun i hi => mk_old μ k v a b hi) (fun j _ => rfl) hk (fun e4 e5 => ?_)
    · rw [gcn]
      by_cases e : c = hs σ
      · simp [e]
      · simp [e]
    · obtain ⟨b0, b1, b2, b3, b4, b5, b6⟩ := nT_old (Tn := Tn) (k := k) hmk e (old c e)
      rw [hi, hi, hi, hj c (old c e), hp 603 c (old c e), hp 604 c (old c e), hp 606 c (old c e)]
      exact ⟨b0, b1, b2, b3, b4, b5, b6⟩
    · have hn : q ≠ hs σ := hZ.ne (by omega)
      exact ⟨by rw [gcn, if_neg hn], hl q, ha q⟩
    · exfalso
      rw [mk_I] at e4 e5
      simp at e4 e5
      rcases hr with hr | hr
      · exact hr e4
      · exact e5 hr
  · refine hS.new (by rw [hi]; exact a6) (by rw [hi, a7]; exact hS.2.1) (fun i => ha sa i) (by rw [hp 205 mc nmc]; simp [nT, q_hs_si, q_gc_si, q_gi_si, q_gj_si, q_gp_si, q_gl_si, q_ai_si, q_aj_si, q_ap_si, q_hs_sj, q_gc_sj, q_gi_sj, q_gj_sj, q_gp_sj, q_gl_sj, q_ai_sj, q_aj_sj, q_ap_sj, q_hs_sp, q_gc_sp, q_gi_sp, q_gj_sp, q_gp_sp, q_gl_sp, q_ai_sp, q_aj_sp, q_ap_sp, q_hs_wi, q_gc_wi, q_gi_wi, q_gj_wi, q_gp_wi, q_gl_wi, q_ai_wi, q_aj_wi, q_ap_wi, q_hs_wj, q_gc_wj, q_gi_wj, q_gj_wj, q_gp_wj, q_gl_wj, q_ai_wj, q_aj_wj, q_ap_wj, q_hs_wp, q_gc_wp, q_gi_wp, q_gj_wp, q_gp_wp, q_gl_wp, q_ai_wp, q_aj_wp, q_ap_wp, q_hs_wr, q_gc_wr, q_gi_wr, q_gj_wr, q_gp_wr, q_gl_wr, q_ai_wr, q_aj_wr, q_ap_wr, q_hs_nw, q_gc_nw, q_gi_nw, q_gj_nw, q_gp_nw, q_gl_nw, q_ai_nw, q_aj_nw, q_ap_nw, q_hs_na, q_gc_na, q_gi_na, q_gj_na, q_gp_na, q_gl_na, q_ai_na, q_aj_na, q_ap_na, nmc]) (by rw [hp 206 mc nmc]; simp [nT, q_hs_si, q_gc_si, q_gi_si, q_gj_si, q_gp_si, q_gl_si, q_ai_si, q_aj_si, q_ap_si, q_hs_sj, q_gc_sj, q_gi_sj, q_gj_sj, q_gp_sj, q_gl_sj, q_ai_sj, q_aj_sj, q_ap_sj, q_hs_sp, q_gc_sp, q_gi_sp, q_gj_sp, q_gp_sp, q_gl_sp, q_ai_sp, q_aj_sp, q_ap_sp, q_hs_wi, q_gc_wi, q_gi_wi, q_gj_wi, q_gp_wi, q_gl_wi, q_ai_wi, q_aj_wi, q_ap_wi, q_hs_wj, q_gc_wj, q_gi_wj, q_gj_wj, q_gp_wj, q_gl_wj, q_ai_wj, q_aj_wj, q_ap_wj, q_hs_wp, q_gc_wp, q_gi_wp, q_gj_wp, q_gp_wp, q_gl_wp, q_ai_wp, q_aj_wp, q_ap_wp, q_hs_wr, q_gc_wr, q_gi_wr, q_gj_wr, q_gp_wr, q_gl_wr, q_ai_wr, q_aj_wr, q_ap_wr, q_hs_nw, q_gc_nw, q_gi_nw, q_gj_nw, q_gp_nw, q_gl_nw, q_ai_nw, q_aj_nw, q_ap_nw, q_hs_na, q_gc_na, q_gi_na, q_gj_na, q_gp_na, q_gl_na, q_ai_na, q_aj_na, q_ap_na, nmc]) (mk_L ..) hg
end MKE
