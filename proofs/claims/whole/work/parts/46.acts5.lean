section ACT5
variable {d : Dp} {σ : Sg} {μ : Mu} {x pg mc mk sa ls es : Nat} {Fr : Nat → Nat} {F N Tn Pn w fa nb : Nat} {va vb vc : Int32}
theorem pr.inj (hG : GT σ μ Tn Pn sa) {q q' : Option Nat} {v v' : Int32} (h : pr σ Tn q v) (h' : pr σ Tn q' v') : q = q' ↔ v = v' := by
  have h50 := hG.1
  rcases h with h | ⟨a, j, h1, h2, h3, h4, h5⟩ <;> rcases h' with k | ⟨b, i, k1, k2, k3, k4, k5⟩
  · rw [h.1, h.2, k.1, k.2]; exact ⟨fun _ => rfl, fun _ => rfl⟩
  · rw [h.1, h.2, k1, k2]
    exact ⟨fun e => (by cases e), fun e => absurd e.symm (nI_ne (by omega))⟩
  · rw [k.1, k.2, h1, h2]
    exact ⟨fun e => (by cases e), fun e => absurd e (nI_ne (by omega))⟩
  · rw [h1, h2, k1, k2]
    constructor
    · intro e
      cases e
      rw [← h5, ← k5]
    · intro e
      rw [hG.2.2.2.2.2.1 a b h4 k4 (by rw [h5, k5]; exact e)]
theorem act_14 (H : HA d σ μ x pg mc mk sa ls es Fr F N Tn Pn w fa nb 14 va vb vc) : AR d σ μ x pg mc mk sa ls es Fr F N Tn Pn w fa va vb vc := by
  obtain ⟨h5, h4, hop, -, -, hpt, hb, hcl, hb2, h3, hmk, hm4, hmn, h30, h9⟩ := H.f; obtain ⟨h, hT, hw, hfa, hn, hk, ho, hom, h0, hf, pa, pb, pc⟩ := H; have hN := h.2.2.2.1.1
  rcases sim_is h hfa hn h5 h4 pa 5 with ⟨t, j, eq, ev, hj, h7, h6, hTk, hk2, hl, hi⟩ | ⟨e, he, hl, hi⟩
  · have hk5 : mI μ 4 j = 5 := by rcases hk2 with q | q; exact q; exact absurd q.1 (by decide)
    subst ev
    have hjb := nI_bd (n := 50000) (j := j) (by omega) (by omega)
    have hj2 : (nI j).toNatClampNeg = j := nI_clamp (by omega)
    rcases hTk.2 with k | k | k | k | ⟨k0, z, b, q, k1, k2, k3, k4, k5, k6, k7, k8, k9⟩
    · exfalso; rcases k.1 with e | e <;> (rw [hk5] at e; exact absurd e (by decide))
    · exfalso; rcases k.1 with e | e <;> (rw [hk5] at e; exact absurd e (by decide))
    · exfalso; have e := k.1; rw [hk5] at e; exact absurd e (by decide)
    · refine ⟨none, _, 0, 0, -1, _, ?_, ?_, AO.fail (e := 1) h (by omega) (by omega) _ _⟩
      · (unfold ex_X1_finish; simp only [Option.bind_some, hn]; rw [if_pos hfa, if_pos h5, hop, if_neg (by decide), if_neg (by decide), if_neg (by decide), if_neg (by decide), if_neg (by decide), if_neg (by decide), if_neg (by decide), if_neg (by decide), if_neg (by decide), if_neg (by decide), if_neg (by decide), if_neg (by decide), if_pos (by decide), if_pos h3])
        unfold ex_X1_size
        simp only [Option.bind_some]
        rw [if_pos hfa, if_pos h3, hl]
        simp only [b2_some]
        rw [if_pos trivial, if_pos hfa]
        simp only [eq, Option.bind_some]
        rw [if_pos h7, if_pos k.2.2.2]
        simp only [hn, Option.bind_some]
        rw [if_pos h5, if_pos h3, ce_fail h3, h4]
        rfl
      · (unfold mx_X7_act; rw [if_pos hb]; simp only [hcl, hom, b2_id]; rw [if_pos (by decide), if_pos hb2, if_neg (by decide)]; unfold mx_X7_larger; rw [if_pos hb]; simp only [hcl, hom, b2_id]; rw [if_neg (by decide), if_neg (by decide), if_pos (by decide)])
        rw [hi]
        simp only [b2_some]
        rw [if_neg (by decide), if_pos hjb, hj2, if_pos k.2.1]
        rfl
    · have hz := h.2.2.2.2.1.2.1
      refine ⟨some (hs σ), _, 1, 7, nI Tn, _, ?_, ?_, AO.num h hT h0 hf (nI z).toInt64⟩
      · (unfold ex_X1_finish; simp only [Option.bind_some, hn]; rw [if_pos hfa, if_pos h5, hop, if_neg (by decide), if_neg (by decide), if_neg (by decide), if_neg (by decide), if_neg (by decide), if_neg (by decide), if_neg (by decide), if_neg (by decide), if_neg (by decide), if_neg (by decide), if_neg (by decide), if_neg (by decide), if_pos (by decide), if_pos h3])
        unfold ex_X1_size
        simp only [Option.bind_some]
        rw [if_pos hfa, if_pos h3, hl]
        simp only [b2_some]
        rw [if_pos trivial, if_pos hfa]
        simp only [eq, Option.bind_some]
        rw [if_pos h7, if_neg (by rw [k4]; simp), if_pos h3]
        simp only [k4, Option.bind_some]
        rw [if_pos k5]
        simp only [hmk, Option.bind_some]
        rw [if_pos hm4, k6, ce_withValue hm4 hmn h30]
        rfl
      · (unfold mx_X7_act; rw [if_pos hb]; simp only [hcl, hom, b2_id]; rw [if_pos (by decide), if_pos hb2, if_neg (by decide)]; unfold mx_X7_larger; rw [if_pos hb]; simp only [hcl, hom, b2_id]; rw [if_neg (by decide), if_neg (by decide), if_pos (by decide)])
        rw [hi]
        simp only [b2_some]
        rw [if_neg (by decide), if_pos hjb, hj2, k1, if_neg (nI_ne (by omega)), if_pos (by rw [hj2] at hjb; exact hjb), mx_num_ev μ h9 hT]
  · refine ⟨none, _, 0, 0, -1, _, ?_, ?_, AO.fail (e := e) h (e13 he).1 (e13 he).2 _ _⟩
    · (unfold ex_X1_finish; simp only [Option.bind_some, hn]; rw [if_pos hfa, if_pos h5, hop, if_neg (by decide), if_neg (by decide), if_neg (by decide), if_neg (by decide), if_neg (by decide), if_neg (by decide), if_neg (by decide), if_neg (by decide), if_neg (by decide), if_neg (by decide), if_neg (by decide), if_neg (by decide), if_pos (by decide), if_pos h3])
      unfold ex_X1_size
      simp only [Option.bind_some]
      rw [if_pos hfa, if_pos h3, hl]
      simp only [b2_some]
      rw [if_neg (by decide)]
      rfl
    · (unfold mx_X7_act; rw [if_pos hb]; simp only [hcl, hom, b2_id]; rw [if_pos (by decide), if_pos hb2, if_neg (by decide)]; unfold mx_X7_larger; rw [if_pos hb]; simp only [hcl, hom, b2_id]; rw [if_neg (by decide), if_neg (by decide), if_pos (by decide)])
      rw [hi]
      simp only [b2_some]
      rw [if_pos trivial]
theorem act_17 (H : HA d σ μ x pg mc mk sa ls es Fr F N Tn Pn w fa nb 17 va vb vc) : AR d σ μ x pg mc mk sa ls es Fr F N Tn Pn w fa va vb vc := by
  obtain ⟨h5, h4, hop, -, -, hpt, hb, hcl, hb2, h3, hmk, hm4, hmn, h30, h9⟩ := H.f; obtain ⟨h, hT, hw, hfa, hn, hk, ho, hom, h0, hf, pa, pb, pc⟩ := H; have hN := h.2.2.2.1.1
  rcases sim_is h hfa hn h5 h4 pa 1 with ⟨t, j, eq, ev, hj, h7, h6, hTk, hk2, hl, hi⟩ | ⟨e, he, hl, hi⟩
  · have hk1 : mI μ 4 j = 1 := by rcases hk2 with q | q; exact q; exact absurd q.1 (by decide)
    have hv := hTk.c1 hk1
    subst ev
    have hjb := nI_bd (n := 50000) (j := j) (by omega) (by omega)
    have hj2 : (nI j).toNatClampNeg = j := nI_clamp (by omega)
    have hZ := h.2.1
    have nmc : mc ≠ hs σ := hZ.ne (by omega)
    have A : AO d σ μ x pg mc mk sa ls es Fr F N Tn Pn w (some (hs σ)) (sj (nT σ mk Tn 6) 602 (hs σ) (mJ μ 7 j)) 1 7 (nI Tn) (mkμ μ Tn 6 (mJ μ 7 j) (-1) (-1)) := AO.make h h0 hf (h.mkV hT _ _ _ (Or.inr rfl)) (AgO.sj (nT_z h.2.1) (by decide)) ⟨fun _ _ => ⟨by rw [q_gp_sj], by rw [q_gi_sj], by rw [q_gp_sj], by rw [q_gp_sj], by rw [q_gp_sj], by rw [q_gp_sj], by rw [q_gj_sj, if_neg (fun q => absurd q.1 (by decide))]⟩, by rw [q_gp_sj], by rw [q_gi_sj], by rw [q_gi_sj], by rw [q_gi_sj], by rw [q_gi_sj]⟩ (fun f c => by rw [q_gi_sj]) (fun c => by rw [q_gc_sj])
    have B := h.mkV hT (k := 6) (mJ μ 7 j) (-1) (-1) (Or.inr rfl)
    have hgc : gc (sj (nT σ mk Tn 6) 602 (hs σ) (mJ μ 7 j)) mc = 3 := by rw [q_gc_sj, nT_gc, if_neg nmc]; exact h3
    have pn : pr (sj (nT σ mk Tn 6) 602 (hs σ) (mJ μ 7 j)) (Tn + 1) (some (hs σ)) (nI Tn) := Or.inr ⟨hs σ, Tn, rfl, rfl, by omega, by rw [q_gc_sj, nT_gc, if_pos rfl], by rw [q_gi_sj]; exact (nT_at (σ := σ) (Tn := Tn) (k := 6) hmn).1⟩
    refine ⟨some (hs σ), sp (sj (nT σ mk Tn 6) 602 (hs σ) (mJ μ 7 j)) 205 mc (some (hs σ)), 1, 7, nI Tn, uS (mkμ μ Tn 6 (mJ μ 7 j) (-1) (-1)) 813 (nI Tn), ?_, ?_, ?_⟩
    · (unfold ex_X1_finish; simp only [Option.bind_some, hn]; rw [if_pos hfa, if_pos h5, hop, if_neg (by decide), if_neg (by decide), if_neg (by decide), if_neg (by decide), if_neg (by decide), if_neg (by decide), if_neg (by decide), if_neg (by decide), if_neg (by decide), if_neg (by decide), if_neg (by decide), if_neg (by decide), if_neg (by decide), if_neg (by decide), if_pos (by decide), if_pos h3])
      unfold ex_X1_hold
      simp only [Option.bind_some]
      rw [if_pos hfa, if_pos h3, hl]
      simp only [b2_some]
      rw [if_pos trivial, if_pos h3, if_pos hfa]
      simp only [eq, hmk, Option.bind_some]
      rw [if_pos h7, if_pos hm4, hv, ce_withValue hm4 hmn h30]
      simp only [b4_some]
      rw [if_pos hgc, q_gp_sp, if_pos ⟨rfl, rfl⟩]
      rfl
    · (unfold mx_X7_act; rw [if_pos hb]; simp only [hcl, hom, b2_id]; rw [if_pos (by decide), if_pos hb2, if_neg (by decide)]; unfold mx_X7_larger; rw [if_pos hb]; simp only [hcl, hom, b2_id]; rw [if_neg (by decide), if_neg (by decide), if_neg (by decide), if_neg (by decide), if_pos (by decide)])
      rw [hi]
      simp only [b2_some]
      rw [if_neg (by decide), if_pos hjb, hj2, mx_make_ev μ h9 hT]
      simp only [b2_some, bm_eq]
      rw [q_mS_uS, if_pos rfl]
    · obtain ⟨Tm, Pm, a1, ao, ax, a2, a3, a4, a5, a6, a7, a8, a9⟩ := A
      have hc := B.held pn
      refine ⟨Tn + 1, Pn, hc, ao.tr (AgO.sp ao.z (by decide)), ⟨⟨ax.1.1, ax.1.2⟩, fun a ha => by rw [q_gi_sp]; exact ax.2 a ha⟩, a2.tr ⟨fun _ _ => ⟨by rw [q_gp_sp, if_neg (fun q => absurd q.1 (by decide))], by rw [q_gi_sp], by rw [q_gp_sp, if_neg (fun q => absurd q.1 (by decide))], by rw [q_gp_sp, if_neg (fun q => absurd q.1 (by decide))], by rw [q_gp_sp, if_neg (fun q => absurd q.1 (by decide))], by rw [q_gp_sp, if_neg (fun q => absurd q.1 (by decide))], by rw [q_gj_sp]⟩, by rw [q_gp_sp, if_neg (fun q => absurd q.1 (by decide))], by rw [q_gi_sp], by rw [q_gi_sp], by rw [q_gi_sp], by rw [q_gi_sp]⟩ (fun a ha => by rw [q_gc_sj, nT_gc, if_neg (hZ.ne (by omega))]; exact ha), ?_, by omega, by omega, by omega, by omega, by omega, Or.inl ⟨?_, ?_, ?_, ?_⟩⟩
      · exact ⟨a3.1, a3.2⟩
      · rw [q_mS_uS, if_neg (by decide), mk_S]; exact h0
      · rw [q_gi_sp, q_gi_sj]; simp [nT, q_hs_si, q_gc_si, q_gi_si, q_gj_si, q_gp_si, q_gl_si, q_ai_si, q_aj_si, q_ap_si, q_hs_sj, q_gc_sj, q_gi_sj, q_gj_sj, q_gp_sj, q_gl_sj, q_ai_sj, q_aj_sj, q_ap_sj, q_hs_sp, q_gc_sp, q_gi_sp, q_gj_sp, q_gp_sp, q_gl_sp, q_ai_sp, q_aj_sp, q_ap_sp, q_hs_wi, q_gc_wi, q_gi_wi, q_gj_wi, q_gp_wi, q_gl_wi, q_ai_wi, q_aj_wi, q_ap_wi, q_hs_wj, q_gc_wj, q_gi_wj, q_gj_wj, q_gp_wj, q_gl_wj, q_ai_wj, q_aj_wj, q_ap_wj, q_hs_wp, q_gc_wp, q_gi_wp, q_gj_wp, q_gp_wp, q_gl_wp, q_ai_wp, q_aj_wp, q_ap_wp, q_hs_wr, q_gc_wr, q_gi_wr, q_gj_wr, q_gp_wr, q_gl_wr, q_ai_wr, q_aj_wr, q_ap_wr, q_hs_nw, q_gc_nw, q_gi_nw, q_gj_nw, q_gp_nw, q_gl_nw, q_ai_nw, q_aj_nw, q_ap_nw, q_hs_na, q_gc_na, q_gi_na, q_gj_na, q_gp_na, q_gl_na, q_ai_na, q_aj_na, q_ap_na, nmc]; exact hf
      · rw [q_gi_sp, q_gi_sj]; simp [nT, q_hs_si, q_gc_si, q_gi_si, q_gj_si, q_gp_si, q_gl_si, q_ai_si, q_aj_si, q_ap_si, q_hs_sj, q_gc_sj, q_gi_sj, q_gj_sj, q_gp_sj, q_gl_sj, q_ai_sj, q_aj_sj, q_ap_sj, q_hs_sp, q_gc_sp, q_gi_sp, q_gj_sp, q_gp_sp, q_gl_sp, q_ai_sp, q_aj_sp, q_ap_sp, q_hs_wi, q_gc_wi, q_gi_wi, q_gj_wi, q_gp_wi, q_gl_wi, q_ai_wi, q_aj_wi, q_ap_wi, q_hs_wj, q_gc_wj, q_gi_wj, q_gj_wj, q_gp_wj, q_gl_wj, q_ai_wj, q_aj_wj, q_ap_wj, q_hs_wp, q_gc_wp, q_gi_wp, q_gj_wp, q_gp_wp, q_gl_wp, q_ai_wp, q_aj_wp, q_ap_wp, q_hs_wr, q_gc_wr, q_gi_wr, q_gj_wr, q_gp_wr, q_gl_wr, q_ai_wr, q_aj_wr, q_ap_wr, q_hs_nw, q_gc_nw, q_gi_nw, q_gj_nw, q_gp_nw, q_gl_nw, q_ai_nw, q_aj_nw, q_ap_nw, q_hs_na, q_gc_na, q_gi_na, q_gj_na, q_gp_na, q_gl_na, q_ai_na, q_aj_na, q_ap_na, nmc]
      · exact pn.mo (Nat.le_refl _) (fun _ e => ⟨e, rfl⟩)
  · refine ⟨none, _, 0, 0, -1, _, ?_, ?_, AO.fail (e := e) h (e13 he).1 (e13 he).2 _ _⟩
    · (unfold ex_X1_finish; simp only [Option.bind_some, hn]; rw [if_pos hfa, if_pos h5, hop, if_neg (by decide), if_neg (by decide), if_neg (by decide), if_neg (by decide), if_neg (by decide), if_neg (by decide), if_neg (by decide), if_neg (by decide), if_neg (by decide), if_neg (by decide), if_neg (by decide), if_neg (by decide), if_neg (by decide), if_neg (by decide), if_pos (by decide), if_pos h3])
      unfold ex_X1_hold
      simp only [Option.bind_some]
      rw [if_pos hfa, if_pos h3, hl]
      simp only [b2_some]
      rw [if_neg (by decide)]
      rfl
    · (unfold mx_X7_act; rw [if_pos hb]; simp only [hcl, hom, b2_id]; rw [if_pos (by decide), if_pos hb2, if_neg (by decide)]; unfold mx_X7_larger; rw [if_pos hb]; simp only [hcl, hom, b2_id]; rw [if_neg (by decide), if_neg (by decide), if_neg (by decide), if_neg (by decide), if_pos (by decide)])
      rw [hi]
      simp only [b2_some]
      rw [if_pos trivial]
end ACT5
