theorem b2_id {α β : Type} (o : Option (α × β)) : b2 o (fun r m => some (r, m)) = o := by
  cases o with
  | none => rfl
  | some x => rfl
theorem AgD.tr {σ τ ρ : Sg} {mc : Nat} (h : AgD σ τ mc) (k : AgD τ ρ mc) (hg : ∀ a, gc σ a = 2 → gc τ a = 2) : AgD σ ρ mc := by
  obtain ⟨h1, h2, h3, h4, h5, h6⟩ := h
  obtain ⟨k1, k2, k3, k4, k5, k6⟩ := k
  refine ⟨fun a ha => ?_, k2.trans h2, k3.trans h3, k4.trans h4, k5.trans h5, k6.trans h6⟩
  obtain ⟨a1, a2, a3, a4, a5, a6, a7⟩ := h1 a ha
  obtain ⟨b1, b2, b3, b4, b5, b6, b7⟩ := k1 a (hg a ha)
  exact ⟨b1.trans a1, b2.trans a2, b3.trans a3, b4.trans a4, b5.trans a5, b6.trans a6, b7.trans a7⟩
theorem nT_d {σ : Sg} (h : GZ σ) {mc mk Tn : Nat} {k : Int32} (hm : gc σ mc = 3) (hk : gc σ mk = 4) : AgD σ (nT σ mk Tn k) mc := by
  have nmc : mc ≠ hs σ := h.ne (by omega)
  refine ⟨fun a ha => ?_, ?_⟩
  · have na : a ≠ hs σ := h.ne (by omega)
    simp [nT, q_hs_si, q_gc_si, q_gi_si, q_gj_si, q_gp_si, q_gl_si, q_ai_si, q_aj_si, q_ap_si, q_hs_sj, q_gc_sj, q_gi_sj, q_gj_sj, q_gp_sj, q_gl_sj, q_ai_sj, q_aj_sj, q_ap_sj, q_hs_sp, q_gc_sp, q_gi_sp, q_gj_sp, q_gp_sp, q_gl_sp, q_ai_sp, q_aj_sp, q_ap_sp, q_hs_wi, q_gc_wi, q_gi_wi, q_gj_wi, q_gp_wi, q_gl_wi, q_ai_wi, q_aj_wi, q_ap_wi, q_hs_wj, q_gc_wj, q_gi_wj, q_gj_wj, q_gp_wj, q_gl_wj, q_ai_wj, q_aj_wj, q_ap_wj, q_hs_wp, q_gc_wp, q_gi_wp, q_gj_wp, q_gp_wp, q_gl_wp, q_ai_wp, q_aj_wp, q_ap_wp, q_hs_wr, q_gc_wr, q_gi_wr, q_gj_wr, q_gp_wr, q_gl_wr, q_ai_wr, q_aj_wr, q_ap_wr, q_hs_nw, q_gc_nw, q_gi_nw, q_gj_nw, q_gp_nw, q_gl_nw, q_ai_nw, q_aj_nw, q_ap_nw, q_hs_na, q_gc_na, q_gi_na, q_gj_na, q_gp_na, q_gl_na, q_ai_na, q_aj_na, q_ap_na, na]
  · simp [nT, q_hs_si, q_gc_si, q_gi_si, q_gj_si, q_gp_si, q_gl_si, q_ai_si, q_aj_si, q_ap_si, q_hs_sj, q_gc_sj, q_gi_sj, q_gj_sj, q_gp_sj, q_gl_sj, q_ai_sj, q_aj_sj, q_ap_sj, q_hs_sp, q_gc_sp, q_gi_sp, q_gj_sp, q_gp_sp, q_gl_sp, q_ai_sp, q_aj_sp, q_ap_sp, q_hs_wi, q_gc_wi, q_gi_wi, q_gj_wi, q_gp_wi, q_gl_wi, q_ai_wi, q_aj_wi, q_ap_wi, q_hs_wj, q_gc_wj, q_gi_wj, q_gj_wj, q_gp_wj, q_gl_wj, q_ai_wj, q_aj_wj, q_ap_wj, q_hs_wp, q_gc_wp, q_gi_wp, q_gj_wp, q_gp_wp, q_gl_wp, q_ai_wp, q_aj_wp, q_ap_wp, q_hs_wr, q_gc_wr, q_gi_wr, q_gj_wr, q_gp_wr, q_gl_wr, q_ai_wr, q_aj_wr, q_ap_wr, q_hs_nw, q_gc_nw, q_gi_nw, q_gj_nw, q_gp_nw, q_gl_nw, q_ai_nw, q_aj_nw, q_ap_nw, q_hs_na, q_gc_na, q_gi_na, q_gj_na, q_gp_na, q_gl_na, q_ai_na, q_aj_na, q_ap_na, nmc]
theorem mk_E (μ : Mu) (Tn : Nat) (k : Int32) (v : Int64) (a b : Int32) : AgE μ (mkμ μ Tn k v a b) := ⟨fun i => by simp [mk_I, mk_J], by simp [mk_S]⟩
section ACT
variable {d : Dp} {σ : Sg} {μ : Mu} {x pg mc mk sa ls es : Nat} {Fr : Nat → Nat} {F N Tn Pn w : Nat}
theorem AO.make (h : CR d σ μ x pg mc mk sa ls es Fr F N Tn Pn) (h0 : mS μ 820 = 0) (hf : gi σ 211 mc = 0) {τ : Sg} {k : Int32} {v : Int64} {a b : Int32} (hc : CR d τ (mkμ μ Tn k v a b) x pg mc mk sa ls es Fr F N (Tn + 1) Pn) (o : AgO (nT σ mk Tn k) τ) (hd : AgD (nT σ mk Tn k) τ mc) (hi : ∀ f c, gi τ f c = gi (nT σ mk Tn k) f c) (hg : ∀ c, gc τ c = gc (nT σ mk Tn k) c) : AO d σ μ x pg mc mk sa ls es Fr F N Tn Pn w (some (hs σ)) τ 1 7 (nI Tn) (mkμ μ Tn k v a b) := by
  obtain ⟨hC, hZ, -⟩ := id h
  have hmk : gc σ mk = 4 := hC.2.2.2.1
  have hmc : gc σ mc = 3 := hC.2.1
  have nmk : mk ≠ hs σ := hZ.ne (by omega)
  have nmc : mc ≠ hs σ := hZ.ne (by omega)
  obtain ⟨a1, -⟩ := nT_at (σ := σ) (Tn := Tn) (k := k) nmk
  refine ⟨Tn + 1, Pn, hc, (nT_o hZ).tr o, ⟨mk_N .., fun a ha => by rw [hi]; exact (nT_old hmk ha (hZ.ne (by omega))).1⟩, (nT_d hZ hmc hmk).tr hd (fun c e => ?_), mk_E .., by omega, by omega, by omega, by omega, by omega, Or.inl ⟨by rw [mk_S]; exact h0, ?_, ?_, Or.inr ⟨hs σ, Tn, rfl, rfl, by omega, ?_, by rw [hi]; exact a1⟩⟩⟩
  · rw [nT_gc, if_neg (hZ.ne (by omega))]; exact e
  · rw [hi]; simp [nT, q_hs_si, q_gc_si, q_gi_si, q_gj_si, q_gp_si, q_gl_si, q_ai_si, q_aj_si, q_ap_si, q_hs_sj, q_gc_sj, q_gi_sj, q_gj_sj, q_gp_sj, q_gl_sj, q_ai_sj, q_aj_sj, q_ap_sj, q_hs_sp, q_gc_sp, q_gi_sp, q_gj_sp, q_gp_sp, q_gl_sp, q_ai_sp, q_aj_sp, q_ap_sp, q_hs_wi, q_gc_wi, q_gi_wi, q_gj_wi, q_gp_wi, q_gl_wi, q_ai_wi, q_aj_wi, q_ap_wi, q_hs_wj, q_gc_wj, q_gi_wj, q_gj_wj, q_gp_wj, q_gl_wj, q_ai_wj, q_aj_wj, q_ap_wj, q_hs_wp, q_gc_wp, q_gi_wp, q_gj_wp, q_gp_wp, q_gl_wp, q_ai_wp, q_aj_wp, q_ap_wp, q_hs_wr, q_gc_wr, q_gi_wr, q_gj_wr, q_gp_wr, q_gl_wr, q_ai_wr, q_aj_wr, q_ap_wr, q_hs_nw, q_gc_nw, q_gi_nw, q_gj_nw, q_gp_nw, q_gl_nw, q_ai_nw, q_aj_nw, q_ap_nw, q_hs_na, q_gc_na, q_gi_na, q_gj_na, q_gp_na, q_gl_na, q_ai_na, q_aj_na, q_ap_na, nmc]; exact hf
  · rw [hi]; simp [nT, q_hs_si, q_gc_si, q_gi_si, q_gj_si, q_gp_si, q_gl_si, q_ai_si, q_aj_si, q_ap_si, q_hs_sj, q_gc_sj, q_gi_sj, q_gj_sj, q_gp_sj, q_gl_sj, q_ai_sj, q_aj_sj, q_ap_sj, q_hs_sp, q_gc_sp, q_gi_sp, q_gj_sp, q_gp_sp, q_gl_sp, q_ai_sp, q_aj_sp, q_ap_sp, q_hs_wi, q_gc_wi, q_gi_wi, q_gj_wi, q_gp_wi, q_gl_wi, q_ai_wi, q_aj_wi, q_ap_wi, q_hs_wj, q_gc_wj, q_gi_wj, q_gj_wj, q_gp_wj, q_gl_wj, q_ai_wj, q_aj_wj, q_ap_wj, q_hs_wp, q_gc_wp, q_gi_wp, q_gj_wp, q_gp_wp, q_gl_wp, q_ai_wp, q_aj_wp, q_ap_wp, q_hs_wr, q_gc_wr, q_gi_wr, q_gj_wr, q_gp_wr, q_gl_wr, q_ai_wr, q_aj_wr, q_ap_wr, q_hs_nw, q_gc_nw, q_gi_nw, q_gj_nw, q_gp_nw, q_gl_nw, q_ai_nw, q_aj_nw, q_ap_nw, q_hs_na, q_gc_na, q_gi_na, q_gj_na, q_gp_na, q_gl_na, q_ai_na, q_aj_na, q_ap_na, nmc]
  · rw [hg, nT_gc, if_pos rfl]
/-- what an act has: the frame, its NODE, what its PARTS gave -/
def HA (d : Dp) (σ : Sg) (μ : Mu) (x pg mc mk sa ls es : Nat) (Fr : Nat → Nat) (F N Tn Pn w fa nb o : Nat) (va vb vc : Int32) : Prop :=
  CR d σ μ x pg mc mk sa ls es Fr F N Tn Pn ∧ Tn < 50000 ∧ w < N ∧ gc σ fa = 2 ∧ gp σ 103 fa = some nb ∧ Nk σ μ N nb w ∧ o ≤ 20 ∧ mI μ 1 w = nI o ∧ mS μ 820 = 0 ∧ gi σ 211 mc = 0 ∧ pr σ Tn (gp σ 105 fa) va ∧ pr σ Tn (gp σ 106 fa) vb ∧ pr σ Tn (gp σ 107 fa) vc
def AR (d : Dp) (σ : Sg) (μ : Mu) (x pg mc mk sa ls es : Nat) (Fr : Nat → Nat) (F N Tn Pn w fa : Nat) (va vb vc : Int32) : Prop :=
  ∃ q τ k n r ν, ex_X1_finish d σ mc (some fa) = some (q, τ, k, n) ∧ mx_X7_act μ (nI w) va vb vc = some (r, ν) ∧ AO d σ μ x pg mc mk sa ls es Fr F N Tn Pn w q τ k n r ν
variable {fa nb : Nat} {va vb vc : Int32}
theorem HA.f {o : Nat} (H : HA d σ μ x pg mc mk sa ls es Fr F N Tn Pn w fa nb o va vb vc) : gc σ nb = 5 ∧ gi σ 400 nb = nI w ∧ gi σ 401 nb = nI o ∧ o ≤ 20 ∧ (o = 0 → gj σ 402 nb = mJ μ 3 w) ∧ (o ≠ 0 → gi σ 403 nb = mI μ 2 (3 * w) ∧ gi σ 404 nb = mI μ 2 (3 * w + 1) ∧ gi σ 405 nb = mI μ 2 (3 * w + 2)) ∧ ¬ (nI w < 0 ∨ 4000 ≤ (nI w).toNatClampNeg) ∧ (nI w).toNatClampNeg = w ∧ ¬ (nI w < 0 ∨ 4000 ≤ w) ∧ gc σ mc = 3 ∧ gp σ 201 mc = some mk ∧ gc σ mk = 4 ∧ mk ≠ hs σ ∧ gi σ 300 mk = nI Tn ∧ mS μ 809 = nI Tn := by
  obtain ⟨h, hT, hw, hfa, hn, ⟨h5, h4, o', ho, k1, k2, k3, k4⟩, ho2, hom, -⟩ := H
  have hN := h.2.2.2.1.1
  have e : o' = o := (nI_eq (by omega) (by omega)).mp (k2.symm.trans hom)
  subst e
  have hC := h.1
  have hcl : (nI w).toNatClampNeg = w := nI_clamp (by omega)
  have hb : ¬ (nI w < 0 ∨ 4000 ≤ (nI w).toNatClampNeg) := nI_bd (by omega) (by omega)
  have hmk : gc σ mk = 4 := hC.2.2.2.1
  refine ⟨h5, h4, k1, ho, k3, fun e => ?_, hb, hcl, by rw [hcl] at hb; exact hb, hC.2.1, hC.2.2.2.2.2.2.2.2.2.2.1, hmk, h.2.1.ne (by omega), h.2.2.2.2.2.1, h.2.2.2.2.1.2.2.1⟩
  obtain ⟨a1, a2, a3, -⟩ := k4 e
  exact ⟨a1, a2, a3⟩
end ACT
