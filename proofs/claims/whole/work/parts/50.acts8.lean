section ACT8
variable {d : Dp} {σ : Sg} {μ : Mu} {x pg mc mk sa ls es : Nat} {Fr : Nat → Nat} {F N Tn Pn w fa nb : Nat} {va vb vc : Int32}
theorem inRow_at {w j k z b : Nat} (hw : w < 4000) (hop : mI μ 1 w = 13) (hj : j < 50000) (h5 : mI μ 5 j = nI z) (h7 : mJ μ 7 j = lN b) (hk : k < z) (hz : b + z ≤ 20000) (c : Int32) : mx_X7_inRow μ (nI w) (nI j) (nI k) c = some (mI μ 8 (b + k), μ) := by
  have hjb := nI_bd (n := 50000) (j := j) (by omega) (by omega)
  have hj2 : (nI j).toNatClampNeg = j := nI_clamp (by omega)
  have hjb2 : ¬ (nI j < 0 ∨ 50000 ≤ j) := by rw [hj2] at hjb; exact hjb
  have hb := nI_bd (n := 4000) (j := w) (by omega) (by omega)
  have hcl : (nI w).toNatClampNeg = w := nI_clamp (by omega)
  unfold mx_X7_inRow; rw [if_pos hjb]; simp only [hj2]; rw [h5, if_neg (nI_ne (by omega)), if_neg (nI_nl (by omega)), if_pos hjb2, if_pos ((nI_ltI (by omega) (by omega)).mpr hk), if_pos hjb2, if_pos hb]; simp only [hcl]; rw [hop, h7]; simp only [lN_i, nI_add]
  rw [if_pos trivial, if_pos (nI_bd (by omega) (by omega)), nI_clamp (by omega)]
theorem inRow_ok {w j k z b : Nat} (hw : w < 4000) (hop : mI μ 1 w = 12) (hj : j < 50000) (h5 : mI μ 5 j = nI z) (h7 : mJ μ 7 j = lN b) (hk : k < z) (hz : b + z ≤ 20000) {c : Int32} (hc : c = -1 ∨ ∃ jc, jc < 50000 ∧ c = nI jc ∧ ((mI μ 6 j ≠ 1 ∧ mI μ 6 j ≠ 2) ∨ (mI μ 6 j = 1 ∧ (mI μ 4 jc = 2 ∨ mI μ 4 jc = 3)) ∨ (mI μ 6 j = 2 ∧ mI μ 4 jc = 3))) : mx_X7_inRow μ (nI w) (nI j) (nI k) c = some (c, uI μ 8 (b + k) c) := by
  have hjb := nI_bd (n := 50000) (j := j) (by omega) (by omega)
  have hj2 : (nI j).toNatClampNeg = j := nI_clamp (by omega)
  have hjb2 : ¬ (nI j < 0 ∨ 50000 ≤ j) := by rw [hj2] at hjb; exact hjb
  have hb := nI_bd (n := 4000) (j := w) (by omega) (by omega)
  have hcl : (nI w).toNatClampNeg = w := nI_clamp (by omega)
  have hpb := nI_bd (n := 20000) (j := b + k) (by omega) (by omega)
  have hp2 : (nI (b + k)).toNatClampNeg = b + k := nI_clamp (by omega)
  have hpb2 : ¬ (nI (b + k) < 0 ∨ 20000 ≤ b + k) := by rw [hp2] at hpb; exact hpb
  have n01 : ¬ (1 : Int32) = 0 := by decide
  rcases hc with hc | ⟨jc, hjc, hc, hh⟩
  · unfold mx_X7_inRow; rw [if_pos hjb]; simp only [hj2]; rw [h5, if_neg (nI_ne (by omega)), if_neg (nI_nl (by omega)), if_pos hjb2, if_pos ((nI_ltI (by omega) (by omega)).mpr hk), if_pos hjb2, if_pos hb]; simp only [hcl]; rw [hop, h7]; simp only [lN_i, nI_add]
    rw [if_neg (by decide), if_pos hc, if_pos hc, if_pos hpb, hp2, bm_eq]
  · have hcb := nI_bd (n := 50000) (j := jc) (by omega) (by omega)
    have hc2 : (nI jc).toNatClampNeg = jc := nI_clamp (by omega)
    have hcb2 : ¬ (nI jc < 0 ∨ 50000 ≤ jc) := by rw [hc2] at hcb; exact hcb
    have hcn : ¬ nI jc = -1 := nI_ne (by omega)
    subst hc
    have e21 : ¬ (2 : Int32) = 1 := by decide
    have e12 : ¬ (1 : Int32) = 2 := by decide
    have e32 : ¬ (3 : Int32) = 2 := by decide
    rcases hh with ⟨u1, u2⟩ | ⟨u, kk | kk⟩ | ⟨u, kk⟩
    · unfold mx_X7_inRow; rw [if_pos hjb]; simp only [hj2]; rw [h5, if_neg (nI_ne (by omega)), if_neg (nI_nl (by omega)), if_pos hjb2, if_pos ((nI_ltI (by omega) (by omega)).mpr hk), if_pos hjb2, if_pos hb]; simp only [hcl]; rw [hop, h7]; simp only [lN_i, nI_add]
      by_cases k2 : mI μ 4 jc = 2
      · simp only [hc2, hp2, if_neg (show ¬ (12 : Int32) = 13 by decide), if_neg hcn, if_pos hcb2, if_pos k2, if_pos hjb2, if_neg u1, if_neg u2, if_pos hpb2, bm_eq]
      · by_cases k3 : mI μ 4 jc = 3
        · simp only [hc2, hp2, if_neg (show ¬ (12 : Int32) = 13 by decide), if_neg hcn, if_pos hcb2, if_neg k2, if_pos k3, if_pos hjb2, if_neg u1, if_neg u2, if_pos hpb2, bm_eq]
        · simp only [hc2, hp2, if_neg (show ¬ (12 : Int32) = 13 by decide), if_neg hcn, if_pos hcb2, if_neg k2, if_neg k3, if_pos hjb2, if_neg u1, if_neg u2, if_pos hpb2, bm_eq]
    · unfold mx_X7_inRow; rw [if_pos hjb]; simp only [hj2]; rw [h5, if_neg (nI_ne (by omega)), if_neg (nI_nl (by omega)), if_pos hjb2, if_pos ((nI_ltI (by omega) (by omega)).mpr hk), if_pos hjb2, if_pos hb]; simp only [hcl]; rw [hop, h7]; simp only [lN_i, nI_add]
      simp only [hc2, hp2, u, kk, if_neg (show ¬ (12 : Int32) = 13 by decide), if_neg hcn, if_pos hcb2, if_true, if_pos hjb2, if_neg n01, if_neg e12, if_pos hpb2, bm_eq]
    · unfold mx_X7_inRow; rw [if_pos hjb]; simp only [hj2]; rw [h5, if_neg (nI_ne (by omega)), if_neg (nI_nl (by omega)), if_pos hjb2, if_pos ((nI_ltI (by omega) (by omega)).mpr hk), if_pos hjb2, if_pos hb]; simp only [hcl]; rw [hop, h7]; simp only [lN_i, nI_add]
      simp only [hc2, hp2, u, kk, if_neg (show ¬ (12 : Int32) = 13 by decide), if_neg hcn, if_pos hcb2, if_true, if_pos hjb2, if_neg n01, if_neg e12, if_neg e32, if_pos hpb2, bm_eq]
    · unfold mx_X7_inRow; rw [if_pos hjb]; simp only [hj2]; rw [h5, if_neg (nI_ne (by omega)), if_neg (nI_nl (by omega)), if_pos hjb2, if_pos ((nI_ltI (by omega) (by omega)).mpr hk), if_pos hjb2, if_pos hb]; simp only [hcl]; rw [hop, h7]; simp only [lN_i, nI_add]
      simp only [hc2, hp2, u, kk, if_neg (show ¬ (12 : Int32) = 13 by decide), if_neg hcn, if_pos hcb2, if_true, if_pos hjb2, if_neg n01, if_neg e21, if_neg e32, if_pos hpb2, bm_eq]
theorem inRow_bad {w j k z b : Nat} (hw : w < 4000) (hop : mI μ 1 w = 12) (hj : j < 50000) (h5 : mI μ 5 j = nI z) (h7 : mJ μ 7 j = lN b) (hk : k < z) (hz : b + z ≤ 20000) {jc : Nat} (hjc : jc < 50000) (hh : (mI μ 6 j = 1 ∧ ¬ (mI μ 4 jc = 2 ∨ mI μ 4 jc = 3)) ∨ (mI μ 6 j = 2 ∧ ¬ mI μ 4 jc = 3)) : mx_X7_inRow μ (nI w) (nI j) (nI k) (nI jc) = some (-1, fμ μ (nI w) 4) := by
  have hjb := nI_bd (n := 50000) (j := j) (by omega) (by omega)
  have hj2 : (nI j).toNatClampNeg = j := nI_clamp (by omega)
  have hjb2 : ¬ (nI j < 0 ∨ 50000 ≤ j) := by rw [hj2] at hjb; exact hjb
  have hb := nI_bd (n := 4000) (j := w) (by omega) (by omega)
  have hcl : (nI w).toNatClampNeg = w := nI_clamp (by omega)
  have hpb := nI_bd (n := 20000) (j := b + k) (by omega) (by omega)
  have hp2 : (nI (b + k)).toNatClampNeg = b + k := nI_clamp (by omega)
  have hpb2 : ¬ (nI (b + k) < 0 ∨ 20000 ≤ b + k) := by rw [hp2] at hpb; exact hpb
  have n01 : ¬ (1 : Int32) = 0 := by decide
  have hcb := nI_bd (n := 50000) (j := jc) (by omega) (by omega)
  have hc2 : (nI jc).toNatClampNeg = jc := nI_clamp (by omega)
  have hcb2 : ¬ (nI jc < 0 ∨ 50000 ≤ jc) := by rw [hc2] at hcb; exact hcb
  have hcn : ¬ nI jc = -1 := nI_ne (by omega)
  have e21 : ¬ (2 : Int32) = 1 := by decide
  have e12 : ¬ (1 : Int32) = 2 := by decide
  have e32 : ¬ (3 : Int32) = 2 := by decide
  rcases hh with ⟨u, kk⟩ | ⟨u, k3⟩
  · have k2 : ¬ mI μ 4 jc = 2 := fun q => kk (Or.inl q)
    have k3 : ¬ mI μ 4 jc = 3 := fun q => kk (Or.inr q)
    unfold mx_X7_inRow; rw [if_pos hjb]; simp only [hj2]; rw [h5, if_neg (nI_ne (by omega)), if_neg (nI_nl (by omega)), if_pos hjb2, if_pos ((nI_ltI (by omega) (by omega)).mpr hk), if_pos hjb2, if_pos hb]; simp only [hcl]; rw [hop, h7]; simp only [lN_i, nI_add]
    simp only [hc2, hp2, u, if_neg (show ¬ (12 : Int32) = 13 by decide), if_neg hcn, if_pos hcb2, if_neg k2, if_neg k3, if_true, if_pos hjb2, b2_some, mx_fail_ev]
    rfl
  · unfold mx_X7_inRow; rw [if_pos hjb]; simp only [hj2]; rw [h5, if_neg (nI_ne (by omega)), if_neg (nI_nl (by omega)), if_pos hjb2, if_pos ((nI_ltI (by omega) (by omega)).mpr hk), if_pos hjb2, if_pos hb]; simp only [hcl]; rw [hop, h7]; simp only [lN_i, nI_add]
    by_cases k2 : mI μ 4 jc = 2
    · simp only [hc2, hp2, u, if_neg (show ¬ (12 : Int32) = 13 by decide), if_neg hcn, if_pos hcb2, if_pos k2, if_neg k3, if_true, if_pos hjb2, if_neg e21, b2_some, mx_fail_ev]
      rfl
    · simp only [hc2, hp2, u, if_neg (show ¬ (12 : Int32) = 13 by decide), if_neg hcn, if_pos hcb2, if_neg k2, if_neg k3, if_true, if_pos hjb2, if_neg e21, b2_some, mx_fail_ev]
      rfl
/-- the PLACE of PUT and AT, both sides -/
theorem place_sim (h : CR d σ μ x pg mc mk sa ls es Fr F N Tn Pn) (hfa : gc σ fa = 2) (hn : gp σ 103 fa = some nb) (h5 : gc σ nb = 5) (h4 : gi σ 400 nb = nI w) (hw : w < 4000) (pa : pr σ Tn (gp σ 105 fa) va) (pb : pr σ Tn (gp σ 106 fa) vb) :
    (∃ e, 1 ≤ e ∧ e ≤ 8 ∧ ex_X1_lacksPlace d σ mc (some fa) = some (1, fσ σ mc (nI w) (nI e)) ∧ (b2 (mx_X7_is μ (nI w) va (5 : Int32)) fun r22 m21 => (if r22 = (0 : Int32) then some ((-1 : Int32), m21) else (b2 (mx_X7_is m21 (nI w) vb (1 : Int32)) fun r27 m26 => (if r27 = (0 : Int32) then some ((-1 : Int32), m26) else (if ¬ (vb < 0 ∨ 50000 ≤ Int32.toNatClampNeg vb) then mx_X7_inRow m26 (nI w) va (Int64.toInt32 (mJ m26 7 (Int32.toNatClampNeg vb))) vc else none))))) = some (-1, fμ μ (nI w) (nI e))) ∨
    (∃ t j z b q k t2, gp σ 105 fa = some t ∧ va = nI j ∧ j < Tn ∧ gc σ t = 7 ∧ gi σ 600 t = nI j ∧ Tk σ μ Tn Pn t j ∧ mI μ 4 j = 5 ∧ mI μ 5 j = nI z ∧ mJ μ 7 j = lN b ∧ b + z ≤ Pn ∧ gp σ 606 t = some q ∧ gc σ q = 12 ∧ gl σ q = z ∧ gi σ 605 t = mI μ 6 j ∧ (mI μ 6 j = 0 ∨ mI μ 6 j = 1 ∨ mI μ 6 j = 2) ∧ (∀ i, i < z → pr σ Tn (ap σ q i) (mI μ 8 (b + i))) ∧ k < z ∧ gp σ 106 fa = some t2 ∧ gc σ t2 = 7 ∧ (gj σ 602 t2).toInt32 = nI k ∧ ex_X1_lacksPlace d σ mc (some fa) = some (0, σ) ∧ (b2 (mx_X7_is μ (nI w) va (5 : Int32)) fun r22 m21 => (if r22 = (0 : Int32) then some ((-1 : Int32), m21) else (b2 (mx_X7_is m21 (nI w) vb (1 : Int32)) fun r27 m26 => (if r27 = (0 : Int32) then some ((-1 : Int32), m26) else (if ¬ (vb < 0 ∨ 50000 ≤ Int32.toNatClampNeg vb) then mx_X7_inRow m26 (nI w) va (Int64.toInt32 (mJ m26 7 (Int32.toNatClampNeg vb))) vc else none))))) = mx_X7_inRow μ (nI w) (nI j) (nI k) vc) := by
  have h3 : gc σ mc = 3 := h.1.2.1
  have h20 := h.2.2.2.2.1.2.1
  have h50 := h.2.2.2.2.1.1
  rcases sim_is h hfa hn h5 h4 pa 5 with ⟨t, j, eq, ev, hj, h7, h6, hTk, hk2, hl, hi⟩ | ⟨e, he, hl, hi⟩
  · have hk5 : mI μ 4 j = 5 := by rcases hk2 with q | q; exact q; exact absurd q.1 (by decide)
    subst ev
    have hjb := nI_bd (n := 50000) (j := j) (by omega) (by omega)
    have hj2 : (nI j).toNatClampNeg = j := nI_clamp (by omega)
    have hjb2 : ¬ (nI j < 0 ∨ 50000 ≤ j) := by rw [hj2] at hjb; exact hjb
    rcases sim_is h hfa hn h5 h4 pb 1 with ⟨t', j', eq', ev', hj', h7', h6', hTk', hk2', hl', hi'⟩ | ⟨e, he, hl', hi'⟩
    · have hv' := hTk'.c1 (by rcases hk2' with q | q; exact q; exact absurd q.1 (by decide))
      subst ev'
      have hjb' := nI_bd (n := 50000) (j := j') (by omega) (by omega)
      have hj2' : (nI j').toNatClampNeg = j' := nI_clamp (by omega)
      have MM : (b2 (mx_X7_is μ (nI w) (nI j) (5 : Int32)) fun r22 m21 => (if r22 = (0 : Int32) then some ((-1 : Int32), m21) else (b2 (mx_X7_is m21 (nI w) (nI j') (1 : Int32)) fun r27 m26 => (if r27 = (0 : Int32) then some ((-1 : Int32), m26) else (if ¬ (nI j' < 0 ∨ 50000 ≤ Int32.toNatClampNeg (nI j')) then mx_X7_inRow m26 (nI w) (nI j) (Int64.toInt32 (mJ m26 7 (Int32.toNatClampNeg (nI j')))) vc else none))))) = mx_X7_inRow μ (nI w) (nI j) (mJ μ 7 j').toInt32 vc := by
        rw [hi]
        simp only [b2_some]
        rw [if_neg (by decide), hi']
        simp only [b2_some]
        rw [if_neg (by decide), if_pos hjb', hj2']
      have LP : ∀ r s, ex_X5_hasPlace d σ t (mJ μ 7 j').toInt32 = some (r, σ) → (if r = 0 then (if gp σ 606 t = none then some ((1 : Int32), fσ σ mc (nI w) 1) else some (1, fσ σ mc (nI w) 2)) else some (0, σ)) = s → ex_X1_lacksPlace d σ mc (some fa) = s := fun r s p1 p2 => by
        unfold ex_X1_lacksPlace
        simp only [Option.bind_some]
        rw [if_pos hfa, if_pos h3, hl]
        simp only [b2_some]
        rw [if_pos trivial, if_pos hfa, if_pos h3, hl']
        simp only [b2_some, eq, eq', hn, Option.bind_some]
        rw [if_pos trivial, if_pos hfa, if_pos h7', if_pos h7, hv', p1]
        simp only [b2_some, eq, hn, Option.bind_some]
        rw [if_pos hfa, if_pos h5, if_pos h7]
        simp only [if_pos h3, ce_fail h3, b2_some, h4]
        exact p2
      rcases hTk.2 with k | k | k | k | ⟨k0, z, b, q, k1, k2, k3, k4, k5, k6, k7, k8, k9⟩
      · exfalso; rcases k.1 with e | e <;> (rw [hk5] at e; exact absurd e (by decide))
      · exfalso; rcases k.1 with e | e <;> (rw [hk5] at e; exact absurd e (by decide))
      · exfalso; have e := k.1; rw [hk5] at e; exact absurd e (by decide)
      · refine Or.inl ⟨1, by omega, by omega, LP 0 _ ?_ ?_, ?_⟩
        · unfold ex_X5_hasPlace
          rw [if_pos h7, if_pos k.2.2.2]
        · rw [if_pos rfl, if_pos k.2.2.2]
          rfl
        · rw [MM]
          unfold mx_X7_inRow
          rw [if_pos hjb]
          simp only [hj2]
          rw [if_pos k.2.1]
          rfl
      · have np : ¬ gp σ 606 t = none := by rw [k4]; simp
        by_cases i0 : (mJ μ 7 j').toInt32 < 0
        · refine Or.inl ⟨2, by omega, by omega, LP 0 _ ?_ ?_, ?_⟩
          · unfold ex_X5_hasPlace
            rw [if_pos h7, if_neg np, if_pos i0]
          · rw [if_pos rfl, if_neg np]
            rfl
          · rw [MM]
            unfold mx_X7_inRow
            rw [if_pos hjb]
            simp only [hj2]
            rw [k1, if_neg (nI_ne (by omega)), if_pos i0]
            rfl
        · obtain ⟨i, hi31, ei⟩ := nI_of i0
          by_cases iz : i < z
          · refine Or.inr ⟨t, j, z, b, q, i, t', eq, rfl, hj, h7, h6, hTk, hk5, k1, k2, k3, k4, k5, k6, k7, k8, k9, iz, eq', h7', by rw [hv']; exact ei, LP 1 _ ?_ ?_, by rw [MM, ei]⟩
            · unfold ex_X5_hasPlace
              rw [if_pos h7, if_neg np, if_neg i0]
              simp only [k4, Option.bind_some]
              rw [if_pos k5, k6, ei, if_neg (by rw [show Int32.ofNat z = nI z from rfl, nI_leI (by omega) hi31]; omega)]
            · rw [if_neg (by decide)]
          · refine Or.inl ⟨2, by omega, by omega, LP 0 _ ?_ ?_, ?_⟩
            · unfold ex_X5_hasPlace
              rw [if_pos h7, if_neg np, if_neg i0]
              simp only [k4, Option.bind_some]
              rw [if_pos k5, k6, ei, if_pos (by rw [show Int32.ofNat z = nI z from rfl, nI_leI (by omega) hi31]; omega)]
            · rw [if_pos rfl, if_neg np]
              rfl
            · rw [MM]
              unfold mx_X7_inRow
              rw [if_pos hjb]
              simp only [hj2]
              rw [k1, if_neg (nI_ne (by omega)), if_neg i0, if_pos hjb2, ei, if_neg (by rw [nI_ltI hi31 (by omega)]; exact iz)]
              rfl
    · refine Or.inl ⟨e, (e13 he).1, (e13 he).2, ?_, ?_⟩
      · unfold ex_X1_lacksPlace
        simp only [Option.bind_some]
        rw [if_pos hfa, if_pos h3, hl]
        simp only [b2_some]
        rw [if_pos trivial, if_pos hfa, if_pos h3, hl']
        simp only [b2_some]
        rw [if_neg (by decide)]
      · rw [hi]
        simp only [b2_some]
        rw [if_neg (by decide), hi']
        simp only [b2_some]
        rw [if_pos trivial]
  · refine Or.inl ⟨e, (e13 he).1, (e13 he).2, ?_, ?_⟩
    · unfold ex_X1_lacksPlace
      simp only [Option.bind_some]
      rw [if_pos hfa, if_pos h3, hl]
      simp only [b2_some]
      rw [if_neg (by decide)]
    · rw [hi]
      simp only [b2_some]
      rw [if_pos trivial]
theorem CR.place (h : CR d σ μ x pg mc mk sa ls es Fr F N Tn Pn) {t j z b q k : Nat} (h7 : gc σ t = 7) (h6 : gi σ 600 t = nI j) (hj : j < Tn) (hT : Tk σ μ Tn Pn t j) (hk : mI μ 4 j = 5) (k1 : mI μ 5 j = nI z) (k2 : mJ μ 7 j = lN b) (k3 : b + z ≤ Pn) (k4 : gp σ 606 t = some q) (k5 : gc σ q = 12) (k6 : gl σ q = z) (k7 : gi σ 605 t = mI μ 6 j) (k8 : mI μ 6 j = 0 ∨ mI μ 6 j = 1 ∨ mI μ 6 j = 2) (k9 : ∀ i, i < z → pr σ Tn (ap σ q i) (mI μ 8 (b + i))) (hkz : k < z) {qc : Option Nat} {v : Int32} (hp : pr σ Tn qc v) : CR d (wp σ q k qc) (uI μ 8 (b + k) v) x pg mc mk sa ls es Fr F N Tn Pn := by
  obtain ⟨g1, g2, g3, g4, g5⟩ := h.2.2.2.2.2
  have hG := h.2.2.2.2.1
  obtain ⟨u1, u2, u3, u4, u5, u6, u7, u8, u9, u10⟩ := id hG
  have hqs := (u8 t q h7 k4).1
  have rb1 : rb μ j = b := by unfold rb; rw [k2, lN_i, nI_clamp (by omega)]
  have rz1 : rz μ j = z := by unfold rz; rw [k1, nI_clamp (by omega)]
  refine h.mk (AgO.wp h.2.1 (by omega)) ⟨rfl, fun _ => ⟨rfl, rfl, rfl, rfl⟩⟩ (hG.at h7 h6 hj (fun _ => rfl) (fun _ => rfl) (fun a _ ha => ⟨rfl, rfl, rfl, rfl, rfl⟩) (fun _ => rfl) (fun p hp2 => ⟨rfl, fun i a ha hat hap => ?_⟩) rfl rfl (fun i hi => ⟨rfl, rfl⟩) (fun _ => rfl) (fun _ => rfl) (fun i hi hin i5 im1 n hnz => ?_) ?_ (fun _ => rfl)) ⟨g1, g2, fun i hi => ?_, g4, g5⟩
  · rw [q_ap_wp, if_neg (fun e => hat (u7 a t q ha h7 (by rw [hap, e.1]) k4))]
  · have := u9 i j hin hj hi i5 hk im1 (by rw [k1]; exact nI_ne (by omega))
    rw [q_mI_uI, if_neg (by omega)]
  · refine ⟨hT.1, Or.inr (Or.inr (Or.inr (Or.inr ⟨hk, z, b, q, k1, k2, k3, k4, k5, k6, k7, k8, fun i hi => ?_⟩)))⟩
    rw [q_ap_wp, q_mI_uI]
    by_cases e : i = k
    · rw [if_pos ⟨rfl, e⟩, if_pos ⟨rfl, by omega⟩]
      exact hp
    · rw [if_neg (fun q => e q.2), if_neg (by omega)]
      exact k9 i hi
  · rw [q_ap_wp, if_neg (fun e => hqs e.1.symm)]
    exact g3 i hi
theorem act_13 (H : HA d σ μ x pg mc mk sa ls es Fr F N Tn Pn w fa nb 13 va vb vc) : AR d σ μ x pg mc mk sa ls es Fr F N Tn Pn w fa va vb vc := by
  obtain ⟨h5, h4, hop, -, -, hpt, hb, hcl, hb2, h3, hmk, hm4, hmn, h30, h9⟩ := H.f; obtain ⟨h, hT, hw, hfa, hn, hk, ho, hom, h0, hf, pa, pb, pc⟩ := H; have hN := h.2.2.2.1.1
  have h20 := h.2.2.2.2.1.2.1
  rcases place_sim (vc := vc) h hfa hn h5 h4 (by omega) pa pb with ⟨e, e1, e8, hl, hi⟩ | ⟨t, j, z, b, q, k, t2, r1, r2, r3, r4, r5, r6, r7, r8, r9, r10, r11, r12, r13, r14, r15, r16, r17, r18, r19, r20, hl, hi⟩
  · refine ⟨none, _, 0, 0, -1, _, ?_, ?_, AO.fail (e := e) h e1 e8 _ _⟩
    · (unfold ex_X1_finish; simp only [Option.bind_some, hn]; rw [if_pos hfa, if_pos h5, hop, if_neg (by decide), if_neg (by decide), if_neg (by decide), if_neg (by decide), if_neg (by decide), if_neg (by decide), if_neg (by decide), if_neg (by decide), if_neg (by decide), if_neg (by decide), if_neg (by decide), if_pos (by decide), if_pos h3])
      unfold ex_X1_at
      rw [if_pos h3, hl]
      simp only [b2_some]
      rw [if_neg (by decide)]
      rfl
    · (unfold mx_X7_act; rw [if_pos hb]; simp only [hcl, hom, b2_id]; rw [if_pos (by decide), if_pos hb2, if_neg (by decide)]; unfold mx_X7_larger; rw [if_pos hb]; simp only [hcl, hom, b2_id]; rw [if_neg (by decide), if_pos (by decide)])
      exact hi
  · refine ⟨ap σ q k, σ, 0, 0, mI μ 8 (b + k), μ, ?_, ?_, AO.same h h0 hf (r16 k r17)⟩
    · (unfold ex_X1_finish; simp only [Option.bind_some, hn]; rw [if_pos hfa, if_pos h5, hop, if_neg (by decide), if_neg (by decide), if_neg (by decide), if_neg (by decide), if_neg (by decide), if_neg (by decide), if_neg (by decide), if_neg (by decide), if_neg (by decide), if_neg (by decide), if_neg (by decide), if_pos (by decide), if_pos h3])
      unfold ex_X1_at
      rw [if_pos h3, hl]
      simp only [b2_some, Option.bind_some]
      rw [if_pos trivial, if_pos hfa]
      simp only [r1, r18, r11, Option.bind_some]
      rw [if_pos r4, if_pos r19, if_pos r12, r20, r13, if_pos (nI_bd r17 (by omega)), nI_clamp (by omega)]
      rfl
    · (unfold mx_X7_act; rw [if_pos hb]; simp only [hcl, hom, b2_id]; rw [if_pos (by decide), if_pos hb2, if_neg (by decide)]; unfold mx_X7_larger; rw [if_pos hb]; simp only [hcl, hom, b2_id]; rw [if_neg (by decide), if_pos (by decide)])
      rw [hi]
      exact inRow_at (by omega) hom (by omega) r8 r9 r17 (by omega) vc
theorem act_12 (H : HA d σ μ x pg mc mk sa ls es Fr F N Tn Pn w fa nb 12 va vb vc) : AR d σ μ x pg mc mk sa ls es Fr F N Tn Pn w fa va vb vc := by
  obtain ⟨h5, h4, hop, -, -, hpt, hb, hcl, hb2, h3, hmk, hm4, hmn, h30, h9⟩ := H.f; obtain ⟨h, hT, hw, hfa, hn, hk, ho, hom, h0, hf, pa, pb, pc⟩ := H; have hN := h.2.2.2.1.1
  have h20 := h.2.2.2.2.1.2.1
  have h50 := h.2.2.2.2.1.1
  rcases place_sim (vc := vc) h hfa hn h5 h4 (by omega) pa pb with ⟨e, e1, e8, hl, hi⟩ | ⟨t, j, z, b, q, k, t2, r1, r2, r3, r4, r5, r6, r7, r8, r9, r10, r11, r12, r13, r14, r15, r16, r17, r18, r19, r20, hl, hi⟩
  · refine ⟨none, _, 0, 0, -1, _, ?_, ?_, AO.fail (e := e) h e1 e8 _ _⟩
    · (unfold ex_X1_finish; simp only [Option.bind_some, hn]; rw [if_pos hfa, if_pos h5, hop, if_neg (by decide), if_neg (by decide), if_neg (by decide), if_neg (by decide), if_neg (by decide), if_neg (by decide), if_neg (by decide), if_neg (by decide), if_neg (by decide), if_neg (by decide), if_pos (by decide), if_pos h3])
      unfold ex_X1_put
      rw [if_pos h3, hl]
      simp only [b2_some]
      rw [if_neg (by decide)]
      rfl
    · (unfold mx_X7_act; rw [if_pos hb]; simp only [hcl, hom, b2_id]; rw [if_pos (by decide), if_pos hb2, if_neg (by decide)]; unfold mx_X7_larger; rw [if_pos hb]; simp only [hcl, hom, b2_id]; rw [if_neg (by decide), if_pos (by decide)])
      exact hi
  · have good : ex_X5_isRowFor d σ t (gp σ 107 fa) = some (1, σ) → (vc = -1 ∨ ∃ jc, jc < 50000 ∧ vc = nI jc ∧ ((mI μ 6 j ≠ 1 ∧ mI μ 6 j ≠ 2) ∨ (mI μ 6 j = 1 ∧ (mI μ 4 jc = 2 ∨ mI μ 4 jc = 3)) ∨ (mI μ 6 j = 2 ∧ mI μ 4 jc = 3))) → AR d σ μ x pg mc mk sa ls es Fr F N Tn Pn w fa va vb vc := fun p1 p2 => by
      refine ⟨gp σ 107 fa, wp σ q k (gp σ 107 fa), 0, 0, vc, uI μ 8 (b + k) vc, ?_, ?_, AO.st h h0 hf (h.place r4 r5 r3 r6 r7 r8 r9 r10 r11 r12 r13 r14 r15 r16 r17 pc) (AgO.wp h.2.1 (by rw [r12]; decide)) ⟨⟨rfl, fun _ => ⟨rfl, rfl, rfl, rfl⟩⟩, fun _ _ => rfl⟩ wp_d (uI_e (by decide)) rfl rfl rfl (pc.mo (Nat.le_refl _) (fun _ e => ⟨e, rfl⟩))⟩
      · (unfold ex_X1_finish; simp only [Option.bind_some, hn]; rw [if_pos hfa, if_pos h5, hop, if_neg (by decide), if_neg (by decide), if_neg (by decide), if_neg (by decide), if_neg (by decide), if_neg (by decide), if_neg (by decide), if_neg (by decide), if_neg (by decide), if_neg (by decide), if_pos (by decide), if_pos h3])
        unfold ex_X1_put
        rw [if_pos h3, hl]
        simp only [b2_some, Option.bind_some]
        rw [if_pos trivial, if_pos hfa]
        simp only [r1, Option.bind_some]
        rw [if_pos r4, p1]
        simp only [b2_some, r1, r18, r11, Option.bind_some]
        rw [if_neg (by decide), if_pos hfa, if_pos r4, if_pos r19, if_pos r12, r20, r13, if_pos (nI_bd r17 (by omega)), if_pos pc.ck, nI_clamp (by omega)]
        rfl
      · (unfold mx_X7_act; rw [if_pos hb]; simp only [hcl, hom, b2_id]; rw [if_pos (by decide), if_pos hb2, if_neg (by decide)]; unfold mx_X7_larger; rw [if_pos hb]; simp only [hcl, hom, b2_id]; rw [if_neg (by decide), if_pos (by decide)])
        rw [hi]
        exact inRow_ok (by omega) hom (by omega) r8 r9 r17 (by omega) p2
    have bad : ∀ jc, jc < 50000 → vc = nI jc → ex_X5_isRowFor d σ t (gp σ 107 fa) = some (0, σ) → ((mI μ 6 j = 1 ∧ ¬ (mI μ 4 jc = 2 ∨ mI μ 4 jc = 3)) ∨ (mI μ 6 j = 2 ∧ ¬ mI μ 4 jc = 3)) → AR d σ μ x pg mc mk sa ls es Fr F N Tn Pn w fa va vb vc := fun jc jc5 ejc p1 p2 => by
      refine ⟨none, _, 0, 0, -1, _, ?_, ?_, AO.fail (e := 4) h (by omega) (by omega) _ _⟩
      · (unfold ex_X1_finish; simp only [Option.bind_some, hn]; rw [if_pos hfa, if_pos h5, hop, if_neg (by decide), if_neg (by decide), if_neg (by decide), if_neg (by decide), if_neg (by decide), if_neg (by decide), if_neg (by decide), if_neg (by decide), if_neg (by decide), if_neg (by decide), if_pos (by decide), if_pos h3])
        unfold ex_X1_put
        rw [if_pos h3, hl]
        simp only [b2_some, Option.bind_some]
        rw [if_pos trivial, if_pos hfa]
        simp only [r1, Option.bind_some]
        rw [if_pos r4, p1]
        simp only [b2_some, hn, Option.bind_some]
        rw [if_pos trivial, if_pos hfa, if_pos h5, if_pos h3, ce_fail h3, h4]
        rfl
      · (unfold mx_X7_act; rw [if_pos hb]; simp only [hcl, hom, b2_id]; rw [if_pos (by decide), if_pos hb2, if_neg (by decide)]; unfold mx_X7_larger; rw [if_pos hb]; simp only [hcl, hom, b2_id]; rw [if_neg (by decide), if_pos (by decide)])
        rw [hi, ejc]
        exact inRow_bad (by omega) hom (by omega) r8 r9 r17 (by omega) jc5 p2
    rcases pc with ⟨c1, c2⟩ | ⟨tc, jc, c1, c2, c3, c4, c5⟩
    · refine good ?_ (Or.inl c1)
      unfold ex_X5_isRowFor
      rw [if_pos r4, r14, c2]
      simp only [if_true]
      by_cases u1 : mI μ 6 j = 1
      · rw [if_pos u1]
      · rw [if_neg u1]
        by_cases u2 : mI μ 6 j = 2
        · rw [if_pos u2]
        · rw [if_neg u2]
    · obtain ⟨i, hi', e6, hkc⟩ := h.2.2.2.2.1.2.2.2.2.1 tc c4
      have hij : i = jc := (nI_eq (by omega) (by omega)).mp (e6.symm.trans c5)
      subst hij
      have e1 : gi σ 601 tc = mI μ 4 i := hkc.1
      have RF : ∀ s, (if mI μ 6 j = 1 then (b2 (ex_X5_isA d σ tc (2 : Int32)) fun r9 s8 => (if r9 = (0 : Int32) then some ((0 : Int32), s8) else some ((1 : Int32), s8))) else (if mI μ 6 j = 2 then (b2 (ex_X5_isA d σ tc (3 : Int32)) fun r9 s8 => (if r9 = (0 : Int32) then some ((0 : Int32), s8) else some ((1 : Int32), s8))) else some ((1 : Int32), σ))) = s → ex_X5_isRowFor d σ t (gp σ 107 fa) = s := fun s p => by
        unfold ex_X5_isRowFor
        rw [if_pos r4, r14, c1]
        simp only [Option.bind_some]
        simp only [if_neg (show ¬ some tc = none by simp), if_pos c4]
        exact p
      by_cases u1 : mI μ 6 j = 1
      · by_cases kk : mI μ 4 i = 2 ∨ mI μ 4 i = 3
        · exact good (RF _ (by rw [if_pos u1, ce_isA_yes c4 (by rw [e1]; rcases kk with q | q; exact Or.inl q; exact Or.inr ⟨rfl, q⟩)]; rfl)) (Or.inr ⟨i, by omega, c2, Or.inr (Or.inl ⟨u1, kk⟩)⟩)
        · exact bad i (by omega) c2 (RF _ (by rw [if_pos u1, ce_isA_no c4 (by rw [e1]; intro q; rcases q with q | q; exact kk (Or.inl q); exact kk (Or.inr q.2))]; rfl)) (Or.inl ⟨u1, kk⟩)
      · by_cases u2 : mI μ 6 j = 2
        · by_cases kk : mI μ 4 i = 3
          · exact good (RF _ (by rw [if_neg u1, if_pos u2, ce_isA_yes c4 (by rw [e1]; exact Or.inl kk)]; rfl)) (Or.inr ⟨i, by omega, c2, Or.inr (Or.inr ⟨u2, kk⟩)⟩)
          · exact bad i (by omega) c2 (RF _ (by rw [if_neg u1, if_pos u2, ce_isA_no c4 (by rw [e1]; intro q; rcases q with q | q; exact kk q; exact absurd q.1 (by decide))]; rfl)) (Or.inr ⟨u2, kk⟩)
        · exact good (RF _ (by rw [if_neg u1, if_neg u2])) (Or.inr ⟨i, by omega, c2, Or.inl ⟨u1, u2⟩⟩)
end ACT8
