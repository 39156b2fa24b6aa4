section ACT2
variable {d : Dp} {σ : Sg} {μ : Mu} {x pg mc mk sa ls es : Nat} {Fr : Nat → Nat} {F N Tn Pn w fa nb : Nat} {va vb vc : Int32}
theorem act_0 (H : HA d σ μ x pg mc mk sa ls es Fr F N Tn Pn w fa nb 0 va vb vc) : AR d σ μ x pg mc mk sa ls es Fr F N Tn Pn w fa va vb vc := by
  obtain ⟨h5, h4, hop, -, hlit, -, hb, hcl, hb2, h3, hmk, hm4, hmn, h30, h9⟩ := H.f
  obtain ⟨h, hT, hw, hfa, hn, hk, ho, hom, h0, hf, pa, pb, pc⟩ := H
  refine ⟨some (hs σ), sj (nT σ mk Tn 1) 602 (hs σ) (mJ μ 3 w), 1, 7, nI Tn, mkμ μ Tn 1 (mJ μ 3 w) (-1) (-1), ?_, ?_, ?_⟩
  · (unfold ex_X1_finish; simp only [Option.bind_some, hn]; rw [if_pos hfa, if_pos h5, hop, if_pos (by decide), if_pos h3])
    simp only [hmk, Option.bind_some]
    rw [if_pos hm4, ce_withValue hm4 hmn h30, hlit rfl]
    rfl
  · (unfold mx_X7_act; rw [if_pos hb]; simp only [hcl, hom, b2_id]; rw [if_neg (by decide)]; unfold mx_X7_simple; rw [if_pos hb]; simp only [hcl, hom, b2_id]; rw [if_pos (by decide)])
    rw [if_pos hb2, mx_num_ev μ h9 hT]
  · exact AO.make h h0 hf (h.mkV hT _ _ _ (Or.inl rfl)) (AgO.sj (nT_z h.2.1) (by decide)) ⟨fun _ _ => ⟨rfl, rfl, rfl, rfl, rfl, rfl, by rw [q_gj_sj, if_neg (fun q => absurd q.1 (by decide))]⟩, rfl, rfl, rfl, rfl, rfl⟩ (fun f c => by rw [q_gi_sj]) (fun c => by rw [q_gc_sj])
theorem act_mkF (o : Nat) (k : Int32) (h : CR d σ μ x pg mc mk sa ls es Fr F N Tn Pn) (hT : Tn < 50000) (h0 : mS μ 820 = 0) (hf : gi σ 211 mc = 0) {q1 q2 : Option Nat} {a b : Int32} (h1 : pr σ Tn q1 a) (hk : ((k = 2 ∨ k = 3) ∧ pr σ Tn q2 b) ∨ (k = 4 ∧ q2 = none)) : AO d σ μ x pg mc mk sa ls es Fr F N Tn Pn w (some (hs σ)) (sp (sp (nT σ mk Tn k) 603 (hs σ) q1) 604 (hs σ) q2) 1 7 (nI Tn) (mkμ μ Tn k 0 a b) :=
  AO.make h h0 hf (h.mkF hT h1 hk) ((AgO.sp (nT_z h.2.1) (by decide)).tr (AgO.sp (show GZ (sp (nT σ mk Tn k) 603 (hs σ) q1) from nT_z (mk := mk) (Tn := Tn) (k := k) h.2.1) (by decide))) ⟨fun c _ => ⟨by rw [q_gp_sp, if_neg (fun q => absurd q.1 (by decide)), q_gp_sp, if_neg (fun q => absurd q.1 (by decide))], by rw [q_gi_sp, q_gi_sp], by rw [q_gp_sp, if_neg (fun q => absurd q.1 (by decide)), q_gp_sp, if_neg (fun q => absurd q.1 (by decide))], by rw [q_gp_sp, if_neg (fun q => absurd q.1 (by decide)), q_gp_sp, if_neg (fun q => absurd q.1 (by decide))], by rw [q_gp_sp, if_neg (fun q => absurd q.1 (by decide)), q_gp_sp, if_neg (fun q => absurd q.1 (by decide))], by rw [q_gp_sp, if_neg (fun q => absurd q.1 (by decide)), q_gp_sp, if_neg (fun q => absurd q.1 (by decide))], by rw [q_gj_sp, q_gj_sp]⟩, by rw [q_gp_sp, if_neg (fun q => absurd q.1 (by decide)), q_gp_sp, if_neg (fun q => absurd q.1 (by decide))], by rw [q_gi_sp, q_gi_sp], by rw [q_gi_sp, q_gi_sp], by rw [q_gi_sp, q_gi_sp], by rw [q_gi_sp, q_gi_sp]⟩ (fun f c => by rw [q_gi_sp, q_gi_sp]) (fun c => by rw [q_gc_sp, q_gc_sp])
theorem act_3 (H : HA d σ μ x pg mc mk sa ls es Fr F N Tn Pn w fa nb 3 va vb vc) : AR d σ μ x pg mc mk sa ls es Fr F N Tn Pn w fa va vb vc := by
  obtain ⟨h5, h4, hop, -, -, hpt, hb, hcl, hb2, h3, hmk, hm4, hmn, h30, h9⟩ := H.f
  obtain ⟨h, hT, hw, hfa, hn, hk, ho, hom, h0, hf, pa, pb, pc⟩ := H
  refine ⟨some (hs σ), _, 1, 7, nI Tn, _, ?_, ?_, act_mkF 3 2 h hT h0 hf pa (Or.inl ⟨Or.inl rfl, pb⟩)⟩
  · (unfold ex_X1_finish; simp only [Option.bind_some, hn]; rw [if_pos hfa, if_pos h5, hop, if_neg (by decide), if_neg (by decide), if_pos (by decide), if_pos h3])
    simp only [hmk, Option.bind_some]
    rw [if_pos hm4, ce_withFields hm4 hmn h30]
    rfl
  · (unfold mx_X7_act; rw [if_pos hb]; simp only [hcl, hom, b2_id]; rw [if_neg (by decide)]; unfold mx_X7_simple; rw [if_pos hb]; simp only [hcl, hom, b2_id]; rw [if_neg (by decide), if_neg (by decide), if_neg (by decide), if_pos (by decide)])
    rw [mx_make_ev μ h9 hT]
theorem act_4 (H : HA d σ μ x pg mc mk sa ls es Fr F N Tn Pn w fa nb 4 va vb vc) : AR d σ μ x pg mc mk sa ls es Fr F N Tn Pn w fa va vb vc := by
  obtain ⟨h5, h4, hop, -, -, hpt, hb, hcl, hb2, h3, hmk, hm4, hmn, h30, h9⟩ := H.f
  obtain ⟨h, hT, hw, hfa, hn, hk, ho, hom, h0, hf, pa, pb, pc⟩ := H
  refine ⟨some (hs σ), _, 1, 7, nI Tn, _, ?_, ?_, act_mkF 3 3 h hT h0 hf pa (Or.inl ⟨Or.inr rfl, pb⟩)⟩
  · (unfold ex_X1_finish; simp only [Option.bind_some, hn]; rw [if_pos hfa, if_pos h5, hop, if_neg (by decide), if_neg (by decide), if_neg (by decide), if_pos (by decide), if_pos h3])
    simp only [hmk, Option.bind_some]
    rw [if_pos hm4, ce_withFields hm4 hmn h30]
    rfl
  · (unfold mx_X7_act; rw [if_pos hb]; simp only [hcl, hom, b2_id]; rw [if_neg (by decide)]; unfold mx_X7_simple; rw [if_pos hb]; simp only [hcl, hom, b2_id]; rw [if_neg (by decide), if_neg (by decide), if_neg (by decide), if_neg (by decide), if_pos (by decide)])
    rw [mx_make_ev μ h9 hT]
theorem act_5 (H : HA d σ μ x pg mc mk sa ls es Fr F N Tn Pn w fa nb 5 va vb vc) : AR d σ μ x pg mc mk sa ls es Fr F N Tn Pn w fa va vb vc := by
  obtain ⟨h5, h4, hop, -, -, hpt, hb, hcl, hb2, h3, hmk, hm4, hmn, h30, h9⟩ := H.f
  obtain ⟨h, hT, hw, hfa, hn, hk, ho, hom, h0, hf, pa, pb, pc⟩ := H
  refine ⟨some (hs σ), _, 1, 7, nI Tn, _, ?_, ?_, act_mkF (b := -1) 3 4 h hT h0 hf pa (Or.inr ⟨rfl, rfl⟩)⟩
  · (unfold ex_X1_finish; simp only [Option.bind_some, hn]; rw [if_pos hfa, if_pos h5, hop, if_neg (by decide), if_neg (by decide), if_neg (by decide), if_neg (by decide), if_pos (by decide), if_pos h3])
    simp only [hmk, Option.bind_some]
    rw [if_pos hm4, ce_withFields hm4 hmn h30]
    rfl
  · (unfold mx_X7_act; rw [if_pos hb]; simp only [hcl, hom, b2_id]; rw [if_neg (by decide)]; unfold mx_X7_simple; rw [if_pos hb]; simp only [hcl, hom, b2_id]; rw [if_neg (by decide), if_neg (by decide), if_neg (by decide), if_neg (by decide), if_neg (by decide), if_pos (by decide)])
    rw [mx_make_ev μ h9 hT]
theorem act_16 (H : HA d σ μ x pg mc mk sa ls es Fr F N Tn Pn w fa nb 16 va vb vc) : AR d σ μ x pg mc mk sa ls es Fr F N Tn Pn w fa va vb vc := by
  obtain ⟨h5, h4, hop, -, -, hpt, hb, hcl, hb2, h3, hmk, hm4, hmn, h30, h9⟩ := H.f
  obtain ⟨h, hT, hw, hfa, hn, hk, ho, hom, h0, hf, pa, pb, pc⟩ := H
  have hhd := h.2.2.2.2.2.2.2.2.1
  by_cases e : gp σ 205 mc = none
  · refine ⟨none, _, 0, 0, -1, _, ?_, ?_, AO.fail (e := 1) h (by omega) (by omega) _ _⟩
    · (unfold ex_X1_finish; simp only [Option.bind_some, hn]; rw [if_pos hfa, if_pos h5, hop, if_neg (by decide), if_neg (by decide), if_neg (by decide), if_neg (by decide), if_neg (by decide), if_neg (by decide), if_neg (by decide), if_neg (by decide), if_neg (by decide), if_neg (by decide), if_neg (by decide), if_neg (by decide), if_neg (by decide), if_pos (by decide), if_pos h3])
      rw [if_pos e, ce_fail h3, h4]
      rfl
    · (unfold mx_X7_act; rw [if_pos hb]; simp only [hcl, hom, b2_id]; rw [if_pos (by decide), if_pos hb2, if_neg (by decide)]; unfold mx_X7_larger; rw [if_pos hb]; simp only [hcl, hom, b2_id]; rw [if_neg (by decide), if_neg (by decide), if_neg (by decide), if_pos (by decide)])
      rw [if_pos (hhd.n2 e)]
      rfl
  · refine ⟨none, _, 0, 0, -1, _, ?_, ?_, AO.fail (e := 7) h (by omega) (by omega) _ _⟩
    · (unfold ex_X1_finish; simp only [Option.bind_some, hn]; rw [if_pos hfa, if_pos h5, hop, if_neg (by decide), if_neg (by decide), if_neg (by decide), if_neg (by decide), if_neg (by decide), if_neg (by decide), if_neg (by decide), if_neg (by decide), if_neg (by decide), if_neg (by decide), if_neg (by decide), if_neg (by decide), if_neg (by decide), if_pos (by decide), if_pos h3])
      rw [if_neg e, ce_fail h3, h4]
      rfl
    · (unfold mx_X7_act; rw [if_pos hb]; simp only [hcl, hom, b2_id]; rw [if_pos (by decide), if_pos hb2, if_neg (by decide)]; unfold mx_X7_larger; rw [if_pos hb]; simp only [hcl, hom, b2_id]; rw [if_neg (by decide), if_neg (by decide), if_neg (by decide), if_pos (by decide)])
      rw [if_neg (fun q => e (hhd.n1 q (by have := h.2.2.2.2.1.1; omega)))]
      rfl
end ACT2
