section ACT4
variable {d : Dp} {σ : Sg} {μ : Mu} {x pg mc mk sa ls es : Nat} {Fr : Nat → Nat} {F N Tn Pn w fa nb : Nat} {va vb vc : Int32}
theorem Tk.c2 {t j : Nat} (h : Tk σ μ Tn Pn t j) (hk : mI μ 4 j = 2 ∨ mI μ 4 j = 3) : pr σ Tn (gp σ 603 t) (mI μ 5 j) ∧ pr σ Tn (gp σ 604 t) (mI μ 6 j) := by
  rcases h.2 with k | k | k | k | k
  · exfalso
    rcases k.1 with e | e <;> rcases hk with q | q <;> (rw [q] at e; exact absurd e (by decide))
  · exact k.2
  all_goals (exfalso; have e := k.1; rcases hk with q | q <;> (rw [q] at e; exact absurd e (by decide)))
theorem Tk.c4 {t j : Nat} (h : Tk σ μ Tn Pn t j) (hk : mI μ 4 j = 4) : pr σ Tn (gp σ 603 t) (mI μ 5 j) := by
  rcases h.2 with k | k | k | k | k
  · exfalso
    rcases k.1 with e | e <;> (rw [hk] at e; exact absurd e (by decide))
  · exfalso
    rcases k.1 with e | e <;> (rw [hk] at e; exact absurd e (by decide))
  · exact k.2.1
  all_goals (exfalso; have e := k.1; rw [hk] at e; exact absurd e (by decide))
theorem Tk.c1 {t j : Nat} (h : Tk σ μ Tn Pn t j) (hk : mI μ 4 j = 1) : gj σ 602 t = mJ μ 7 j := by
  rcases h.2 with k | k | k | k | k
  · exact k.2.1
  · exfalso
    rcases k.1 with e | e <;> (rw [hk] at e; exact absurd e (by decide))
  all_goals (exfalso; have e := k.1; rw [hk] at e; exact absurd e (by decide))
theorem AO.num (h : CR d σ μ x pg mc mk sa ls es Fr F N Tn Pn) (hT : Tn < 50000) (h0 : mS μ 820 = 0) (hf : gi σ 211 mc = 0) (v : Int64) : AO d σ μ x pg mc mk sa ls es Fr F N Tn Pn w (some (hs σ)) (sj (nT σ mk Tn 1) 602 (hs σ) v) 1 7 (nI Tn) (mkμ μ Tn 1 v (-1) (-1)) :=
  AO.make h h0 hf (h.mkV hT _ _ _ (Or.inl rfl)) (AgO.sj (nT_z h.2.1) (by decide)) ⟨fun _ _ => ⟨by rw [q_gp_sj], by rw [q_gi_sj], by rw [q_gp_sj], by rw [q_gp_sj], by rw [q_gp_sj], by rw [q_gp_sj], by rw [q_gj_sj, if_neg (fun q => absurd q.1 (by decide))]⟩, by rw [q_gp_sj], by rw [q_gi_sj], by rw [q_gi_sj], by rw [q_gi_sj], by rw [q_gi_sj]⟩ (fun f c => by rw [q_gi_sj]) (fun c => by rw [q_gc_sj])
theorem e13 {e : Nat} (h : e = 1 ∨ e = 3) : 1 ≤ e ∧ e ≤ 8 := by omega
theorem act_6 (H : HA d σ μ x pg mc mk sa ls es Fr F N Tn Pn w fa nb 6 va vb vc) : AR d σ μ x pg mc mk sa ls es Fr F N Tn Pn w fa va vb vc := by
  obtain ⟨h5, h4, hop, -, -, hpt, hb, hcl, hb2, h3, hmk, hm4, hmn, h30, h9⟩ := H.f
  obtain ⟨h, hT, hw, hfa, hn, hk, ho, hom, h0, hf, pa, pb, pc⟩ := H
  have hN := h.2.2.2.1.1
  have e1 : gi σ 404 nb = mI μ 2 (3 * w + 1) := (hpt (by omega)).2.1
  have hnu : mx_X7_number μ (nI w) 1 = some (mI μ 2 (3 * w + 1), μ) := mx_number_ev μ (w := 1) (by omega) (by omega)
  have hge : ex_X3_get d σ nb 1 = some (mI μ 2 (3 * w + 1), σ) := by rw [← e1]; exact ce_get (w := 1) h5 (by omega)
  rcases sim_is h hfa hn h5 h4 pa 2 with ⟨t, j, eq, ev, hj, h7, h6, hTk, hk2, hl, hi⟩ | ⟨e, he, hl, hi⟩
  · have hc2 := hTk.c2 (by rcases hk2 with q | q; exact Or.inl q; exact Or.inr q.2)
    subst ev
    have hjb := nI_bd (n := 50000) (j := j) (by omega) (by omega)
    by_cases e : mI μ 2 (3 * w + 1) = 0
    · refine ⟨gp σ 603 t, σ, 0, 0, mI μ 5 j, μ, ?_, ?_, AO.same h h0 hf hc2.1⟩
      · (unfold ex_X1_finish; simp only [Option.bind_some, hn]; rw [if_pos hfa, if_pos h5, hop, if_neg (by decide), if_neg (by decide), if_neg (by decide), if_neg (by decide), if_neg (by decide), if_pos (by decide), if_pos h3])
        unfold ex_X1_field
        simp only [Option.bind_some]
        rw [if_pos hfa, if_pos h3, hl]
        simp only [b2_some]
        rw [if_pos trivial, if_pos hfa]
        simp only [hn, Option.bind_some]
        rw [if_pos h5, hge]
        simp only [b2_some]
        rw [if_pos e, if_pos hfa]
        simp only [eq, Option.bind_some]
        rw [if_pos h7]
        rfl
      · (unfold mx_X7_act; rw [if_pos hb]; simp only [hcl, hom, b2_id]; rw [if_neg (by decide)]; unfold mx_X7_simple; rw [if_pos hb]; simp only [hcl, hom, b2_id]; rw [if_neg (by decide), if_neg (by decide), if_neg (by decide), if_neg (by decide), if_neg (by decide), if_neg (by decide), if_pos (by decide)])
        rw [hi]
        simp only [b2_some]
        rw [if_neg (by decide), hnu]
        simp only [b2_some]
        rw [if_pos e, if_pos hjb, nI_clamp (by omega)]
    · refine ⟨gp σ 604 t, σ, 0, 0, mI μ 6 j, μ, ?_, ?_, AO.same h h0 hf hc2.2⟩
      · (unfold ex_X1_finish; simp only [Option.bind_some, hn]; rw [if_pos hfa, if_pos h5, hop, if_neg (by decide), if_neg (by decide), if_neg (by decide), if_neg (by decide), if_neg (by decide), if_pos (by decide), if_pos h3])
        unfold ex_X1_field
        simp only [Option.bind_some]
        rw [if_pos hfa, if_pos h3, hl]
        simp only [b2_some]
        rw [if_pos trivial, if_pos hfa]
        simp only [hn, Option.bind_some]
        rw [if_pos h5, hge]
        simp only [b2_some]
        rw [if_neg e, if_pos hfa]
        simp only [eq, Option.bind_some]
        rw [if_pos h7]
        rfl
      · (unfold mx_X7_act; rw [if_pos hb]; simp only [hcl, hom, b2_id]; rw [if_neg (by decide)]; unfold mx_X7_simple; rw [if_pos hb]; simp only [hcl, hom, b2_id]; rw [if_neg (by decide), if_neg (by decide), if_neg (by decide), if_neg (by decide), if_neg (by decide), if_neg (by decide), if_pos (by decide)])
        rw [hi]
        simp only [b2_some]
        rw [if_neg (by decide), hnu]
        simp only [b2_some]
        rw [if_neg e, if_pos hjb, nI_clamp (by omega)]
  · refine ⟨none, _, 0, 0, -1, _, ?_, ?_, AO.fail (e := e) h (e13 he).1 (e13 he).2 _ _⟩
    · (unfold ex_X1_finish; simp only [Option.bind_some, hn]; rw [if_pos hfa, if_pos h5, hop, if_neg (by decide), if_neg (by decide), if_neg (by decide), if_neg (by decide), if_neg (by decide), if_pos (by decide), if_pos h3])
      unfold ex_X1_field
      simp only [Option.bind_some]
      rw [if_pos hfa, if_pos h3, hl]
      simp only [b2_some]
      rw [if_neg (by decide)]
      rfl
    · (unfold mx_X7_act; rw [if_pos hb]; simp only [hcl, hom, b2_id]; rw [if_neg (by decide)]; unfold mx_X7_simple; rw [if_pos hb]; simp only [hcl, hom, b2_id]; rw [if_neg (by decide), if_neg (by decide), if_neg (by decide), if_neg (by decide), if_neg (by decide), if_neg (by decide), if_pos (by decide)])
      rw [hi]
      simp only [b2_some]
      rw [if_pos trivial]
theorem act_7 (H : HA d σ μ x pg mc mk sa ls es Fr F N Tn Pn w fa nb 7 va vb vc) : AR d σ μ x pg mc mk sa ls es Fr F N Tn Pn w fa va vb vc := by
  obtain ⟨h5, h4, hop, -, -, hpt, hb, hcl, hb2, h3, hmk, hm4, hmn, h30, h9⟩ := H.f
  obtain ⟨h, hT, hw, hfa, hn, hk, ho, hom, h0, hf, pa, pb, pc⟩ := H
  have hN := h.2.2.2.1.1
  have e1 : gi σ 404 nb = mI μ 2 (3 * w + 1) := (hpt (by omega)).2.1
  have hnu : mx_X7_number μ (nI w) 1 = some (mI μ 2 (3 * w + 1), μ) := mx_number_ev μ (w := 1) (by omega) (by omega)
  have hge : ex_X3_get d σ nb 1 = some (mI μ 2 (3 * w + 1), σ) := by rw [← e1]; exact ce_get (w := 1) h5 (by omega)
  rcases sim_is h hfa hn h5 h4 pa 2 with ⟨t, j, eq, ev, hj, h7, h6, hTk, hk2, hl, hi⟩ | ⟨e, he, hl, hi⟩
  · have hk3 : mI μ 4 j = 2 ∨ mI μ 4 j = 3 := by rcases hk2 with q | q; exact Or.inl q; exact Or.inr q.2
    subst ev
    have hjb := nI_bd (n := 50000) (j := j) (by omega) (by omega)
    by_cases e : mI μ 2 (3 * w + 1) = 0
    · refine ⟨gp σ 107 fa, sp σ 603 t (gp σ 107 fa), 0, 0, vc, uI μ 5 j vc, ?_, ?_, AO.st h h0 hf (h.fld1 h7 h6 hj (by rcases hk3 with q | q; exact Or.inl q; exact Or.inr (Or.inl q)) hTk pc) (AgO.sp h.2.1 (by decide)) ⟨⟨rfl, fun _ => ⟨rfl, rfl, rfl, rfl⟩⟩, fun _ _ => rfl⟩ (sp_d (by omega)) (uI_e (by decide)) rfl rfl rfl (pc.mo (Nat.le_refl _) (fun _ e => ⟨e, rfl⟩))⟩
      · (unfold ex_X1_finish; simp only [Option.bind_some, hn]; rw [if_pos hfa, if_pos h5, hop, if_neg (by decide), if_neg (by decide), if_neg (by decide), if_neg (by decide), if_neg (by decide), if_neg (by decide), if_pos (by decide), if_pos h3])
        unfold ex_X1_store
        simp only [Option.bind_some]
        rw [if_pos hfa, if_pos h3, hl]
        simp only [b2_some]
        rw [if_pos trivial, if_pos hfa]
        simp only [hn, Option.bind_some]
        rw [if_pos h5, hge]
        simp only [b2_some]
        rw [if_pos e, if_pos hfa]
        simp only [eq, Option.bind_some]
        rw [if_pos h7]
        rfl
      · (unfold mx_X7_act; rw [if_pos hb]; simp only [hcl, hom, b2_id]; rw [if_neg (by decide)]; unfold mx_X7_simple; rw [if_pos hb]; simp only [hcl, hom, b2_id]; rw [if_neg (by decide), if_neg (by decide), if_neg (by decide), if_neg (by decide), if_neg (by decide), if_neg (by decide), if_neg (by decide), if_pos (by decide)])
        rw [hi]
        simp only [b2_some]
        rw [if_neg (by decide), hnu]
        simp only [b2_some]
        rw [if_pos e, if_pos hjb, nI_clamp (by omega), bm_eq]
    · refine ⟨gp σ 107 fa, sp σ 604 t (gp σ 107 fa), 0, 0, vc, uI μ 6 j vc, ?_, ?_, AO.st h h0 hf (h.fld2 h7 h6 hj hk3 hTk pc) (AgO.sp h.2.1 (by decide)) ⟨⟨rfl, fun _ => ⟨rfl, rfl, rfl, rfl⟩⟩, fun _ _ => rfl⟩ (sp_d (by omega)) (uI_e (by decide)) rfl rfl rfl (pc.mo (Nat.le_refl _) (fun _ e => ⟨e, rfl⟩))⟩
      · (unfold ex_X1_finish; simp only [Option.bind_some, hn]; rw [if_pos hfa, if_pos h5, hop, if_neg (by decide), if_neg (by decide), if_neg (by decide), if_neg (by decide), if_neg (by decide), if_neg (by decide), if_pos (by decide), if_pos h3])
        unfold ex_X1_store
        simp only [Option.bind_some]
        rw [if_pos hfa, if_pos h3, hl]
        simp only [b2_some]
        rw [if_pos trivial, if_pos hfa]
        simp only [hn, Option.bind_some]
        rw [if_pos h5, hge]
        simp only [b2_some]
        rw [if_neg e, if_pos hfa]
        simp only [eq, Option.bind_some]
        rw [if_pos h7]
        rfl
      · (unfold mx_X7_act; rw [if_pos hb]; simp only [hcl, hom, b2_id]; rw [if_neg (by decide)]; unfold mx_X7_simple; rw [if_pos hb]; simp only [hcl, hom, b2_id]; rw [if_neg (by decide), if_neg (by decide), if_neg (by decide), if_neg (by decide), if_neg (by decide), if_neg (by decide), if_neg (by decide), if_pos (by decide)])
        rw [hi]
        simp only [b2_some]
        rw [if_neg (by decide), hnu]
        simp only [b2_some]
        rw [if_neg e, if_pos hjb, nI_clamp (by omega), bm_eq]
  · refine ⟨none, _, 0, 0, -1, _, ?_, ?_, AO.fail (e := e) h (e13 he).1 (e13 he).2 _ _⟩
    · (unfold ex_X1_finish; simp only [Option.bind_some, hn]; rw [if_pos hfa, if_pos h5, hop, if_neg (by decide), if_neg (by decide), if_neg (by decide), if_neg (by decide), if_neg (by decide), if_neg (by decide), if_pos (by decide), if_pos h3])
      unfold ex_X1_store
      simp only [Option.bind_some]
      rw [if_pos hfa, if_pos h3, hl]
      simp only [b2_some]
      rw [if_neg (by decide)]
      rfl
    · (unfold mx_X7_act; rw [if_pos hb]; simp only [hcl, hom, b2_id]; rw [if_neg (by decide)]; unfold mx_X7_simple; rw [if_pos hb]; simp only [hcl, hom, b2_id]; rw [if_neg (by decide), if_neg (by decide), if_neg (by decide), if_neg (by decide), if_neg (by decide), if_neg (by decide), if_neg (by decide), if_pos (by decide)])
      rw [hi]
      simp only [b2_some]
      rw [if_pos trivial]
theorem act_8 (H : HA d σ μ x pg mc mk sa ls es Fr F N Tn Pn w fa nb 8 va vb vc) : AR d σ μ x pg mc mk sa ls es Fr F N Tn Pn w fa va vb vc := by
  obtain ⟨h5, h4, hop, -, -, hpt, hb, hcl, hb2, h3, hmk, hm4, hmn, h30, h9⟩ := H.f
  obtain ⟨h, hT, hw, hfa, hn, hk, ho, hom, h0, hf, pa, pb, pc⟩ := H
  rcases sim_is h hfa hn h5 h4 pa 3 with ⟨t, j, eq, ev, hj, h7, h6, hTk, hk2, hl, hi⟩ | ⟨e, he, hl, hi⟩
  · have hc2 := hTk.c2 (by rcases hk2 with q | q; exact Or.inr q; exact Or.inr q.2)
    subst ev
    have hjb := nI_bd (n := 50000) (j := j) (by omega) (by omega)
    refine ⟨gp σ 603 t, σ, 0, 0, mI μ 5 j, μ, ?_, ?_, AO.same h h0 hf hc2.1⟩
    · (unfold ex_X1_finish; simp only [Option.bind_some, hn]; rw [if_pos hfa, if_pos h5, hop, if_neg (by decide), if_neg (by decide), if_neg (by decide), if_neg (by decide), if_neg (by decide), if_neg (by decide), if_neg (by decide), if_pos (by decide), if_pos h3])
      unfold ex_X1_side
      simp only [Option.bind_some]
      rw [if_pos hfa, if_pos h3, hl]
      simp only [b2_some]
      rw [if_pos trivial, if_pos hfa]
      simp only [hn, Option.bind_some]
      rw [if_pos h5, hop, if_pos (by decide)]
      simp only [eq, Option.bind_some]
      rw [if_pos h7]
      rfl
    · (unfold mx_X7_act; rw [if_pos hb]; simp only [hcl, hom, b2_id]; rw [if_neg (by decide)]; unfold mx_X7_simple; rw [if_pos hb]; simp only [hcl, hom, b2_id]; rw [if_neg (by decide), if_neg (by decide), if_neg (by decide), if_neg (by decide), if_neg (by decide), if_neg (by decide), if_neg (by decide), if_neg (by decide), if_pos (by decide)])
      rw [hi]
      simp only [b2_some]
      rw [if_neg (by decide), if_pos hjb, nI_clamp (by omega)]
  · refine ⟨none, _, 0, 0, -1, _, ?_, ?_, AO.fail (e := e) h (e13 he).1 (e13 he).2 _ _⟩
    · (unfold ex_X1_finish; simp only [Option.bind_some, hn]; rw [if_pos hfa, if_pos h5, hop, if_neg (by decide), if_neg (by decide), if_neg (by decide), if_neg (by decide), if_neg (by decide), if_neg (by decide), if_neg (by decide), if_pos (by decide), if_pos h3])
      unfold ex_X1_side
      simp only [Option.bind_some]
      rw [if_pos hfa, if_pos h3, hl]
      simp only [b2_some]
      rw [if_neg (by decide)]
      rfl
    · (unfold mx_X7_act; rw [if_pos hb]; simp only [hcl, hom, b2_id]; rw [if_neg (by decide)]; unfold mx_X7_simple; rw [if_pos hb]; simp only [hcl, hom, b2_id]; rw [if_neg (by decide), if_neg (by decide), if_neg (by decide), if_neg (by decide), if_neg (by decide), if_neg (by decide), if_neg (by decide), if_neg (by decide), if_pos (by decide)])
      rw [hi]
      simp only [b2_some]
      rw [if_pos trivial]
theorem act_9 (H : HA d σ μ x pg mc mk sa ls es Fr F N Tn Pn w fa nb 9 va vb vc) : AR d σ μ x pg mc mk sa ls es Fr F N Tn Pn w fa va vb vc := by
  obtain ⟨h5, h4, hop, -, -, hpt, hb, hcl, hb2, h3, hmk, hm4, hmn, h30, h9⟩ := H.f
  obtain ⟨h, hT, hw, hfa, hn, hk, ho, hom, h0, hf, pa, pb, pc⟩ := H
  rcases sim_is h hfa hn h5 h4 pa 3 with ⟨t, j, eq, ev, hj, h7, h6, hTk, hk2, hl, hi⟩ | ⟨e, he, hl, hi⟩
  · have hc2 := hTk.c2 (by rcases hk2 with q | q; exact Or.inr q; exact Or.inr q.2)
    subst ev
    have hjb := nI_bd (n := 50000) (j := j) (by omega) (by omega)
    refine ⟨gp σ 604 t, σ, 0, 0, mI μ 6 j, μ, ?_, ?_, AO.same h h0 hf hc2.2⟩
    · (unfold ex_X1_finish; simp only [Option.bind_some, hn]; rw [if_pos hfa, if_pos h5, hop, if_neg (by decide), if_neg (by decide), if_neg (by decide), if_neg (by decide), if_neg (by decide), if_neg (by decide), if_neg (by decide), if_pos (by decide), if_pos h3])
      unfold ex_X1_side
      simp only [Option.bind_some]
      rw [if_pos hfa, if_pos h3, hl]
      simp only [b2_some]
      rw [if_pos trivial, if_pos hfa]
      simp only [hn, Option.bind_some]
      rw [if_pos h5, hop, if_neg (by decide)]
      simp only [eq, Option.bind_some]
      rw [if_pos h7]
      rfl
    · (unfold mx_X7_act; rw [if_pos hb]; simp only [hcl, hom, b2_id]; rw [if_neg (by decide)]; unfold mx_X7_simple; rw [if_pos hb]; simp only [hcl, hom, b2_id]; rw [if_neg (by decide), if_neg (by decide), if_neg (by decide), if_neg (by decide), if_neg (by decide), if_neg (by decide), if_neg (by decide), if_neg (by decide), if_neg (by decide)])
      rw [hi]
      simp only [b2_some]
      rw [if_neg (by decide), if_pos hjb, nI_clamp (by omega)]
  · refine ⟨none, _, 0, 0, -1, _, ?_, ?_, AO.fail (e := e) h (e13 he).1 (e13 he).2 _ _⟩
    · (unfold ex_X1_finish; simp only [Option.bind_some, hn]; rw [if_pos hfa, if_pos h5, hop, if_neg (by decide), if_neg (by decide), if_neg (by decide), if_neg (by decide), if_neg (by decide), if_neg (by decide), if_neg (by decide), if_pos (by decide), if_pos h3])
      unfold ex_X1_side
      simp only [Option.bind_some]
      rw [if_pos hfa, if_pos h3, hl]
      simp only [b2_some]
      rw [if_neg (by decide)]
      rfl
    · (unfold mx_X7_act; rw [if_pos hb]; simp only [hcl, hom, b2_id]; rw [if_neg (by decide)]; unfold mx_X7_simple; rw [if_pos hb]; simp only [hcl, hom, b2_id]; rw [if_neg (by decide), if_neg (by decide), if_neg (by decide), if_neg (by decide), if_neg (by decide), if_neg (by decide), if_neg (by decide), if_neg (by decide), if_neg (by decide)])
      rw [hi]
      simp only [b2_some]
      rw [if_pos trivial]
end ACT4
