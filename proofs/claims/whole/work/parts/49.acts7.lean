section ACT7
variable {d : Dp} {σ : Sg} {μ : Mu} {x pg mc mk sa ls es : Nat} {Fr : Nat → Nat} {F N Tn Pn w fa nb : Nat} {va vb vc : Int32}
theorem AO.row0 (h : CR d σ μ x pg mc mk sa ls es Fr F N Tn Pn) (hT : Tn < 50000) (h0 : mS μ 820 = 0) (hf : gi σ 211 mc = 0) : AO d σ μ x pg mc mk sa ls es Fr F N Tn Pn w (some (hs σ)) (nT σ mk Tn 5) 1 7 (nI Tn) (mkμ μ Tn 5 0 (-1) (-1)) :=
  AO.make h h0 hf (h.mkR hT) (AgO.rf (nT_z h.2.1)) AgD.rf (fun _ _ => rfl) (fun _ => rfl)
theorem AO.rowP (h : CR d σ μ x pg mc mk sa ls es Fr F N Tn Pn) (hT : Tn < 50000) (h0 : mS μ 820 = 0) (hf : gi σ 211 mc = 0) {z : Nat} (hz : Pn + z ≤ 20000) {u : Int32} (hu : u = 0 ∨ u = 1 ∨ u = 2) : AO d σ μ x pg mc mk sa ls es Fr F N Tn Pn w (some (hs σ)) (rwσ σ mk Tn Pn z u) 2 (7 + z) (nI Tn) (rwμ μ Tn Pn z u) := by
  have hmk : gc σ mk = 4 := h.1.2.2.2.1
  have hmc : gc σ mc = 3 := h.1.2.1
  have nmk : mk ≠ hs σ := h.2.1.ne (by omega)
  have nmc : mc ≠ hs σ := h.2.1.ne (by omega)
  obtain ⟨a1, a2, a3, a4, a5, a6, a7, a8⟩ := rw_at (σ := σ) (Tn := Tn) (Pn := Pn) (z := z) (u := u) nmk
  refine ⟨Tn + 1, Pn + z, h.row hT hz hu, rw_o h.2.1, ⟨⟨by rw [rwμ_S]; simp, fun i => by simp [rwμ_I, rwμ_J]⟩, fun a ha => (rw_old hmk ha (h.2.1.ne (by omega))).1⟩, rw_d h.2.1 hmc hmk, ?_, by omega, by omega, by omega, by omega, by omega, Or.inl ⟨?_, ?_, ?_, Or.inr ⟨hs σ, Tn, rfl, rfl, by omega, ?_, a1⟩⟩⟩
  · exact ⟨fun i => by simp [rwμ_I, rwμ_J], by simp [rwμ_S]⟩
  · rw [rwμ_S]; exact h0
  · unfold rwσ
    rw [q_gi_sp, q_gi_na, q_gi_si, if_neg (by omega), q_gi_si, if_neg (by omega)]
    simp [nT, q_hs_si, q_gc_si, q_gi_si, q_gj_si, q_gp_si, q_gl_si, q_ai_si, q_aj_si, q_ap_si, q_hs_sj, q_gc_sj, q_gi_sj, q_gj_sj, q_gp_sj, q_gl_sj, q_ai_sj, q_aj_sj, q_ap_sj, q_hs_sp, q_gc_sp, q_gi_sp, q_gj_sp, q_gp_sp, q_gl_sp, q_ai_sp, q_aj_sp, q_ap_sp, q_hs_wi, q_gc_wi, q_gi_wi, q_gj_wi, q_gp_wi, q_gl_wi, q_ai_wi, q_aj_wi, q_ap_wi, q_hs_wj, q_gc_wj, q_gi_wj, q_gj_wj, q_gp_wj, q_gl_wj, q_ai_wj, q_aj_wj, q_ap_wj, q_hs_wp, q_gc_wp, q_gi_wp, q_gj_wp, q_gp_wp, q_gl_wp, q_ai_wp, q_aj_wp, q_ap_wp, q_hs_wr, q_gc_wr, q_gi_wr, q_gj_wr, q_gp_wr, q_gl_wr, q_ai_wr, q_aj_wr, q_ap_wr, q_hs_nw, q_gc_nw, q_gi_nw, q_gj_nw, q_gp_nw, q_gl_nw, q_ai_nw, q_aj_nw, q_ap_nw, q_hs_na, q_gc_na, q_gi_na, q_gj_na, q_gp_na, q_gl_na, q_ai_na, q_aj_na, q_ap_na, nmc]
    exact hf
  · unfold rwσ
    rw [q_gi_sp, q_gi_na, q_gi_si, if_neg (by omega), q_gi_si, if_neg (by omega)]
    simp [nT, q_hs_si, q_gc_si, q_gi_si, q_gj_si, q_gp_si, q_gl_si, q_ai_si, q_aj_si, q_ap_si, q_hs_sj, q_gc_sj, q_gi_sj, q_gj_sj, q_gp_sj, q_gl_sj, q_ai_sj, q_aj_sj, q_ap_sj, q_hs_sp, q_gc_sp, q_gi_sp, q_gj_sp, q_gp_sp, q_gl_sp, q_ai_sp, q_aj_sp, q_ap_sp, q_hs_wi, q_gc_wi, q_gi_wi, q_gj_wi, q_gp_wi, q_gl_wi, q_ai_wi, q_aj_wi, q_ap_wi, q_hs_wj, q_gc_wj, q_gi_wj, q_gj_wj, q_gp_wj, q_gl_wj, q_ai_wj, q_aj_wj, q_ap_wj, q_hs_wp, q_gc_wp, q_gi_wp, q_gj_wp, q_gp_wp, q_gl_wp, q_ai_wp, q_aj_wp, q_ap_wp, q_hs_wr, q_gc_wr, q_gi_wr, q_gj_wr, q_gp_wr, q_gl_wr, q_ai_wr, q_aj_wr, q_ap_wr, q_hs_nw, q_gc_nw, q_gi_nw, q_gj_nw, q_gp_nw, q_gl_nw, q_ai_nw, q_aj_nw, q_ap_nw, q_hs_na, q_gc_na, q_gi_na, q_gj_na, q_gp_na, q_gl_na, q_ai_na, q_aj_na, q_ap_na, nmc]
  · rw [rw_gc, if_neg (by omega), if_pos rfl]
theorem act_11 (H : HA d σ μ x pg mc mk sa ls es Fr F N Tn Pn w fa nb 11 va vb vc) : AR d σ μ x pg mc mk sa ls es Fr F N Tn Pn w fa va vb vc := by
  obtain ⟨h5, h4, hop, -, -, hpt, hb, hcl, hb2, h3, hmk, hm4, hmn, h30, h9⟩ := H.f; obtain ⟨h, hT, hw, hfa, hn, hk, ho, hom, h0, hf, pa, pb, pc⟩ := H; have hN := h.2.2.2.1.1
  have e1 : gi σ 403 nb = mI μ 2 (3 * w + 0) := (hpt (by omega)).1
  have hnu : mx_X7_number μ (nI w) 0 = some (mI μ 2 (3 * w + 0), μ) := mx_number_ev μ (w := 0) (by omega) (by omega)
  have hge : ex_X3_get d σ nb 0 = some (mI μ 2 (3 * w + 0), σ) := by rw [← e1]; exact ce_get (w := 0) h5 (by omega)
  have h31 : gi σ 301 mk = nI Pn := h.2.2.2.2.2.2.1
  have h11 : mS μ 811 = nI Pn := h.2.2.2.2.1.2.2.2.1
  have hPn := h.2.2.2.2.1.2.1
  rcases sim_is h hfa hn h5 h4 pb 1 with ⟨t, j, eq, ev, hj, h7, h6, hTk, hk2, hl, hi⟩ | ⟨e, he, hl, hi⟩
  · have hv := hTk.c1 (by rcases hk2 with q | q; exact q; exact absurd q.1 (by decide))
    subst ev
    have hjb := nI_bd (n := 50000) (j := j) (by omega) (by omega)
    have hj2 : (nI j).toNatClampNeg = j := nI_clamp (by omega)
    generalize hbb : mI μ 2 (3 * w + 0) = u at hnu hge
    by_cases u0 : u < 0
    · refine ⟨some (hs σ), _, 1, 7, nI Tn, _, ?_, ?_, AO.row0 h hT h0 hf⟩
      · (unfold ex_X1_finish; simp only [Option.bind_some, hn]; rw [if_pos hfa, if_pos h5, hop, if_neg (by decide), if_neg (by decide), if_neg (by decide), if_neg (by decide), if_neg (by decide), if_neg (by decide), if_neg (by decide), if_neg (by decide), if_neg (by decide), if_pos (by decide), if_pos h3])
        unfold ex_X1_row; simp only [Option.bind_some]; rw [if_pos hfa, if_pos h3, hl]; simp only [b2_some]; rw [if_pos trivial, if_pos hfa]; simp only [hn, Option.bind_some]; rw [if_pos h5, hge]; simp only [b2_some, eq, hmk, hn, Option.bind_some, hv]
        rw [if_pos u0, if_pos h3, if_pos hm4, ce_rowWithout hm4 hmn h30]
        rfl
      · (unfold mx_X7_act; rw [if_pos hb]; simp only [hcl, hom, b2_id]; rw [if_pos (by decide), if_pos hb2, if_neg (by decide)]; unfold mx_X7_larger; rw [if_pos hb]; simp only [hcl, hom, b2_id]; rw [if_pos (by decide)])
        rw [hi]; simp only [b2_some]; rw [if_neg (by decide), if_pos hjb]; unfold mx_X7_newRow; simp only [hj2]; rw [hnu]; simp only [b2_some]
        rw [if_pos u0, mx_make_ev μ h9 hT]
        rfl
    · by_cases u2 : u ≤ 2
      · have hu : u = 0 ∨ u = 1 ∨ u = 2 := by
          obtain ⟨i, hi31, ei⟩ := nI_of u0
          subst ei
          rw [show (2 : Int32) = nI 2 from rfl, nI_leI hi31 (by omega)] at u2
          rcases (show i = 0 ∨ i = 1 ∨ i = 2 by omega) with rfl | rfl | rfl
          · exact Or.inl rfl
          · exact Or.inr (Or.inl rfl)
          · exact Or.inr (Or.inr rfl)
        by_cases z0 : (0 : Int32) ≤ (mJ μ 7 j).toInt32
        · obtain ⟨z, hz31, ez⟩ := nI_of (x := (mJ μ 7 j).toInt32) (fun q => by
            rw [Int32.lt_iff_toInt_lt] at q
            rw [Int32.le_iff_toInt_le] at z0
            omega)
          by_cases rm : Pn + z ≤ 20000
          · refine ⟨some (hs σ), _, 2, 7 + z, nI Tn, _, ?_, ?_, AO.rowP h hT h0 hf rm hu⟩
            · (unfold ex_X1_finish; simp only [Option.bind_some, hn]; rw [if_pos hfa, if_pos h5, hop, if_neg (by decide), if_neg (by decide), if_neg (by decide), if_neg (by decide), if_neg (by decide), if_neg (by decide), if_neg (by decide), if_neg (by decide), if_neg (by decide), if_pos (by decide), if_pos h3])
              unfold ex_X1_row; simp only [Option.bind_some]; rw [if_pos hfa, if_pos h3, hl]; simp only [b2_some]; rw [if_pos trivial, if_pos hfa]; simp only [hn, Option.bind_some]; rw [if_pos h5, hge]; simp only [b2_some, eq, hmk, hn, Option.bind_some, hv]
              rw [if_neg u0, if_pos u2, if_pos hfa, if_pos h7, if_pos z0, if_pos h3, if_pos hm4]
              unfold ex_X2_hasRoomFor
              rw [ez, if_neg (nI_nl hz31), if_pos hm4, h31, if_neg (by rw [show (20000 : Int32) = nI 20000 from rfl, pk_sub (by omega), nI_ltI (by omega) (by omega)]; omega)]
              simp only [b2_some, hmk, Option.bind_some]
              rw [if_neg (by decide), if_pos h3, if_pos hm4, ce_row h.2.1 hm4 h30 h31 rm]
              simp only [b4_some]
              rw [show 0 + (0 + (0 + (0 + 1) + 1)) = 2 from rfl, show 0 + (0 + (0 + (0 + 7) + z)) = 7 + z by omega]
            · (unfold mx_X7_act; rw [if_pos hb]; simp only [hcl, hom, b2_id]; rw [if_pos (by decide), if_pos hb2, if_neg (by decide)]; unfold mx_X7_larger; rw [if_pos hb]; simp only [hcl, hom, b2_id]; rw [if_pos (by decide)])
              rw [hi]; simp only [b2_some]; rw [if_neg (by decide), if_pos hjb]; unfold mx_X7_newRow; simp only [hj2]; rw [hnu]; simp only [b2_some]
              rw [if_neg u0, if_pos u2, if_pos z0, ez, h11, if_pos (by rw [show (20000 : Int32) = nI 20000 from rfl, pk_sub (by omega), nI_leI (by omega) (by omega)]; omega), mx_make_ev μ h9 hT, nI_64 (by omega)]
              simp only [b2_some]
              rw [show (0 : Int32) = nI 0 from rfl, lq_row_ev rm _ _ _ z 0 20010 _ (by omega) (by omega) (by rw [mk_S]; exact h11)]
              rfl
          · refine ⟨none, _, 0, 0, -1, _, ?_, ?_, AO.fail (e := 8) h (by omega) (by omega) _ _⟩
            · (unfold ex_X1_finish; simp only [Option.bind_some, hn]; rw [if_pos hfa, if_pos h5, hop, if_neg (by decide), if_neg (by decide), if_neg (by decide), if_neg (by decide), if_neg (by decide), if_neg (by decide), if_neg (by decide), if_neg (by decide), if_neg (by decide), if_pos (by decide), if_pos h3])
              unfold ex_X1_row; simp only [Option.bind_some]; rw [if_pos hfa, if_pos h3, hl]; simp only [b2_some]; rw [if_pos trivial, if_pos hfa]; simp only [hn, Option.bind_some]; rw [if_pos h5, hge]; simp only [b2_some, eq, hmk, hn, Option.bind_some, hv]
              rw [if_neg u0, if_pos u2, if_pos hfa, if_pos h7, if_pos z0, if_pos h3, if_pos hm4]
              unfold ex_X2_hasRoomFor
              rw [ez, if_neg (nI_nl hz31), if_pos hm4, h31, if_pos (by rw [show (20000 : Int32) = nI 20000 from rfl, pk_sub (by omega), nI_ltI (by omega) (by omega)]; omega)]
              simp only [b2_some, hn, Option.bind_some]
              rw [if_pos trivial, if_pos hfa, if_pos h5, if_pos h3, ce_fail h3, h4]
              rfl
            · (unfold mx_X7_act; rw [if_pos hb]; simp only [hcl, hom, b2_id]; rw [if_pos (by decide), if_pos hb2, if_neg (by decide)]; unfold mx_X7_larger; rw [if_pos hb]; simp only [hcl, hom, b2_id]; rw [if_pos (by decide)])
              rw [hi]; simp only [b2_some]; rw [if_neg (by decide), if_pos hjb]; unfold mx_X7_newRow; simp only [hj2]; rw [hnu]; simp only [b2_some]
              rw [if_neg u0, if_pos u2, if_pos z0, ez, h11, if_neg (by rw [show (20000 : Int32) = nI 20000 from rfl, pk_sub (by omega), nI_leI (by omega) (by omega)]; omega)]
              rfl
        · refine ⟨none, _, 0, 0, -1, _, ?_, ?_, AO.fail (e := 5) h (by omega) (by omega) _ _⟩
          · (unfold ex_X1_finish; simp only [Option.bind_some, hn]; rw [if_pos hfa, if_pos h5, hop, if_neg (by decide), if_neg (by decide), if_neg (by decide), if_neg (by decide), if_neg (by decide), if_neg (by decide), if_neg (by decide), if_neg (by decide), if_neg (by decide), if_pos (by decide), if_pos h3])
            unfold ex_X1_row; simp only [Option.bind_some]; rw [if_pos hfa, if_pos h3, hl]; simp only [b2_some]; rw [if_pos trivial, if_pos hfa]; simp only [hn, Option.bind_some]; rw [if_pos h5, hge]; simp only [b2_some, eq, hmk, hn, Option.bind_some, hv]
            rw [if_neg u0, if_pos u2, if_pos hfa, if_pos h7, if_neg z0, if_pos h5, if_pos h3, ce_fail h3, h4]
            rfl
          · (unfold mx_X7_act; rw [if_pos hb]; simp only [hcl, hom, b2_id]; rw [if_pos (by decide), if_pos hb2, if_neg (by decide)]; unfold mx_X7_larger; rw [if_pos hb]; simp only [hcl, hom, b2_id]; rw [if_pos (by decide)])
            rw [hi]; simp only [b2_some]; rw [if_neg (by decide), if_pos hjb]; unfold mx_X7_newRow; simp only [hj2]; rw [hnu]; simp only [b2_some]
            rw [if_neg u0, if_pos u2, if_neg z0]
            rfl
      · refine ⟨some (hs σ), _, 1, 7, nI Tn, _, ?_, ?_, AO.row0 h hT h0 hf⟩
        · (unfold ex_X1_finish; simp only [Option.bind_some, hn]; rw [if_pos hfa, if_pos h5, hop, if_neg (by decide), if_neg (by decide), if_neg (by decide), if_neg (by decide), if_neg (by decide), if_neg (by decide), if_neg (by decide), if_neg (by decide), if_neg (by decide), if_pos (by decide), if_pos h3])
          unfold ex_X1_row; simp only [Option.bind_some]; rw [if_pos hfa, if_pos h3, hl]; simp only [b2_some]; rw [if_pos trivial, if_pos hfa]; simp only [hn, Option.bind_some]; rw [if_pos h5, hge]; simp only [b2_some, eq, hmk, hn, Option.bind_some, hv]
          rw [if_neg u0, if_neg u2, if_pos h3, if_pos hm4, ce_rowWithout hm4 hmn h30]
          rfl
        · (unfold mx_X7_act; rw [if_pos hb]; simp only [hcl, hom, b2_id]; rw [if_pos (by decide), if_pos hb2, if_neg (by decide)]; unfold mx_X7_larger; rw [if_pos hb]; simp only [hcl, hom, b2_id]; rw [if_pos (by decide)])
          rw [hi]; simp only [b2_some]; rw [if_neg (by decide), if_pos hjb]; unfold mx_X7_newRow; simp only [hj2]; rw [hnu]; simp only [b2_some]
          rw [if_neg u0, if_neg u2, mx_make_ev μ h9 hT]
          rfl
  · refine ⟨none, _, 0, 0, -1, _, ?_, ?_, AO.fail (e := e) h (e13 he).1 (e13 he).2 _ _⟩
    · (unfold ex_X1_finish; simp only [Option.bind_some, hn]; rw [if_pos hfa, if_pos h5, hop, if_neg (by decide), if_neg (by decide), if_neg (by decide), if_neg (by decide), if_neg (by decide), if_neg (by decide), if_neg (by decide), if_neg (by decide), if_neg (by decide), if_pos (by decide), if_pos h3])
      unfold ex_X1_row
      simp only [Option.bind_some]
      rw [if_pos hfa, if_pos h3, hl]
      simp only [b2_some]
      rw [if_neg (by decide)]
      rfl
    · (unfold mx_X7_act; rw [if_pos hb]; simp only [hcl, hom, b2_id]; rw [if_pos (by decide), if_pos hb2, if_neg (by decide)]; unfold mx_X7_larger; rw [if_pos hb]; simp only [hcl, hom, b2_id]; rw [if_pos (by decide)])
      rw [hi]
      simp only [b2_some]
      rw [if_pos trivial]
end ACT7
