theorem dv_m1 (x : Int64) : x / (-1) = -x := by
  rw [← Int64.toInt_inj, Int64.toInt_div, show (-1 : Int64).toInt = -1 from by decide, Int64.toInt_neg, Int.tdiv_neg, Int.tdiv_one]
theorem rm_m1 (x : Int64) : x - x / (-1) * (-1) = 0 := by
  rw [dv_m1, show (-x) * (-1) = x from ?_, Int64.sub_self]
  rw [Int64.neg_mul, Int64.mul_neg, Int64.neg_neg, Int64.mul_one]
section ACT6
variable {d : Dp} {σ : Sg} {μ : Mu} {x pg mc mk sa ls es : Nat} {Fr : Nat → Nat} {F N Tn Pn w fa nb : Nat} {va vb vc : Int32}
/-- what 'reckon' comes to -/
theorem rk (h : CR d σ μ x pg mc mk sa ls es Fr F N Tn Pn) (hT : Tn < 50000) (hfa : gc σ fa = 2) (hn : gp σ 103 fa = some nb) (h5 : gc σ nb = 5) (h4 : gi σ 400 nb = nI w) (h0 : mS μ 820 = 0) (hf : gi σ 211 mc = 0) (pc : pr σ Tn (gp σ 107 fa) vc) {qw : Option Nat} {vw : Int32} (pw : pr σ Tn qw vw) (b : Int32) :
    ∃ q τ k n r ν, ex_X1_reckon d σ mc (some fa) b qw = some (q, τ, k, n) ∧ (b2 (mx_X7_is μ (nI w) vw 1) fun r25 m24 => (if r25 = (0 : Int32) then some ((-1 : Int32), m24) else (b2 (mx_X7_is m24 (nI w) vc (1 : Int32)) fun r30 m29 => (if r30 = (0 : Int32) then some ((-1 : Int32), m29) else (if ¬ (vw < 0 ∨ 50000 ≤ Int32.toNatClampNeg vw) then (if ¬ (vc < 0 ∨ 50000 ≤ Int32.toNatClampNeg vc) then (b2 (mx_X7_reckon m29 (nI w) b (mJ m29 7 (Int32.toNatClampNeg vw)) (mJ m29 7 (Int32.toNatClampNeg vc))) fun r40 m39 => some (r40, m39)) else none) else none))))) = some (r, ν) ∧ AO d σ μ x pg mc mk sa ls es Fr F N Tn Pn w q τ k n r ν := by
  have h3 : gc σ mc = 3 := h.1.2.1
  have hmk : gp σ 201 mc = some mk := h.1.2.2.2.2.2.2.2.2.2.2.1
  have hm4 : gc σ mk = 4 := h.1.2.2.2.1
  have hmn : mk ≠ hs σ := h.2.1.ne (by omega)
  have h30 : gi σ 300 mk = nI Tn := h.2.2.2.2.2.1
  have h9 : mS μ 809 = nI Tn := h.2.2.2.2.1.2.2.1
  rcases sim_is h hfa hn h5 h4 pw 1 with ⟨t, j, eq, ev, hj, h7, h6, hTk, hk2, hl, hi⟩ | ⟨e, he, hl, hi⟩
  · rcases sim_is h hfa hn h5 h4 pc 1 with ⟨t', j', eq', ev', hj', h7', h6', hTk', hk2', hl', hi'⟩ | ⟨e, he, hl', hi'⟩
    · have hv := hTk.c1 (by rcases hk2 with q | q; exact q; exact absurd q.1 (by decide))
      have hv' := hTk'.c1 (by rcases hk2' with q | q; exact q; exact absurd q.1 (by decide))
      subst ev
      subst ev'
      subst eq
      have hjb := nI_bd (n := 50000) (j := j) (by omega) (by omega)
      have hj2 : (nI j).toNatClampNeg = j := nI_clamp (by omega)
      have hjb' := nI_bd (n := 50000) (j := j') (by omega) (by omega)
      have hj2' : (nI j').toNatClampNeg = j' := nI_clamp (by omega)
      have fin : ∀ q τ k n r ν, (if b = 2 then (b4 (ex_X2_withValue d σ mk 1 (mJ μ 7 j + mJ μ 7 j')) fun r28 s27 k29 n30 => some (r28, s27, 0 + k29, 0 + n30)) else if b = 3 then (b4 (ex_X2_withValue d σ mk 1 (mJ μ 7 j - mJ μ 7 j')) fun r28 s27 k29 n30 => some (r28, s27, 0 + k29, 0 + n30)) else if b = 4 then (b4 (ex_X2_withValue d σ mk 1 (mJ μ 7 j * mJ μ 7 j')) fun r28 s27 k29 n30 => some (r28, s27, 0 + k29, 0 + n30)) else if lg_cmp (mJ μ 7 j') 0 = 0 then some (none, fσ σ mc (nI w) 6, 0, 0) else if b = 5 then (if ¬ mJ μ 7 j' = 0 then (b4 (ex_X2_withValue d σ mk 1 (mJ μ 7 j / mJ μ 7 j')) fun r28 s27 k29 n30 => some (r28, s27, 0 + k29, 0 + n30)) else none) else (if ¬ mJ μ 7 j' = 0 then (b4 (ex_X2_withValue d σ mk 1 (mJ μ 7 j - mJ μ 7 j / mJ μ 7 j' * mJ μ 7 j')) fun r28 s27 k29 n30 => some (r28, s27, 0 + k29, 0 + n30)) else none)) = some (q, τ, k, n) → mx_X7_reckon μ (nI w) b (mJ μ 7 j) (mJ μ 7 j') = some (r, ν) → AO d σ μ x pg mc mk sa ls es Fr F N Tn Pn w q τ k n r ν → _ := fun q τ k n r ν c1 c2 c3 => (⟨q, τ, k, n, r, ν, by
        unfold ex_X1_reckon
        rw [if_pos h3, hl]
        simp only [b2_some, Option.bind_some]
        rw [if_pos trivial, if_pos hfa, if_pos h3, hl']
        simp only [b2_some, eq', hmk, hn, Option.bind_some]
        simp only [if_true, if_pos h3, if_pos hm4, if_pos h5, if_pos hfa, if_pos h7, if_pos h7']
        rw [hv, hv', h4, ce_fail h3]
        simp only [b2_some]
        exact c1, by
        rw [hi]
        simp only [b2_some]
        rw [if_neg (by decide), hi']
        simp only [b2_some]
        rw [if_neg (by decide), if_pos hjb, if_pos hjb', hj2, hj2', c2]
        rfl, c3⟩ : ∃ q τ k n r ν, ex_X1_reckon d σ mc (some fa) b (some t) = some (q, τ, k, n) ∧ (b2 (mx_X7_is μ (nI w) (nI j) 1) fun r25 m24 => (if r25 = (0 : Int32) then some ((-1 : Int32), m24) else (b2 (mx_X7_is m24 (nI w) (nI j') (1 : Int32)) fun r30 m29 => (if r30 = (0 : Int32) then some ((-1 : Int32), m29) else (if ¬ (nI j < 0 ∨ 50000 ≤ Int32.toNatClampNeg (nI j)) then (if ¬ (nI j' < 0 ∨ 50000 ≤ Int32.toNatClampNeg (nI j')) then (b2 (mx_X7_reckon m29 (nI w) b (mJ m29 7 (Int32.toNatClampNeg (nI j))) (mJ m29 7 (Int32.toNatClampNeg (nI j')))) fun r40 m39 => some (r40, m39)) else none) else none))))) = some (r, ν) ∧ AO d σ μ x pg mc mk sa ls es Fr F N Tn Pn w q τ k n r ν)
      have mkn : ∀ v, (b4 (ex_X2_withValue d σ mk 1 v) fun r28 s27 k29 n30 => some (r28, s27, 0 + k29, 0 + n30)) = some (some (hs σ), sj (nT σ mk Tn 1) 602 (hs σ) v, 1, 7) := fun v => by
        rw [ce_withValue hm4 hmn h30]
        rfl
      by_cases b2' : b = 2
      · exact fin _ _ _ _ _ _ (by rw [if_pos b2']; exact mkn _) (by unfold mx_X7_reckon; rw [if_pos b2', mx_num_ev μ h9 hT]; rfl) (AO.num h hT h0 hf _)
      · by_cases b3 : b = 3
        · exact fin _ _ _ _ _ _ (by rw [if_neg b2', if_pos b3]; exact mkn _) (by unfold mx_X7_reckon; rw [if_neg b2', if_pos b3, mx_num_ev μ h9 hT]; rfl) (AO.num h hT h0 hf _)
        · by_cases b4' : b = 4
          · exact fin _ _ _ _ _ _ (by rw [if_neg b2', if_neg b3, if_pos b4']; exact mkn _) (by unfold mx_X7_reckon; rw [if_neg b2', if_neg b3, if_pos b4', mx_num_ev μ h9 hT]; rfl) (AO.num h hT h0 hf _)
          · by_cases y0 : mJ μ 7 j' = 0
            · have y0' := (lg_cmp_eq (mJ μ 7 j') 0).mpr y0
              exact fin none _ _ _ (-1) _ (by rw [if_neg b2', if_neg b3, if_neg b4', if_pos y0']; rfl) (by unfold mx_X7_reckon; rw [if_neg b2', if_neg b3, if_neg b4', if_pos y0']; rfl) (AO.fail (e := 6) h (by omega) (by omega) _ _)
            · have y0' : ¬ lg_cmp (mJ μ 7 j') 0 = 0 := fun q => y0 ((lg_cmp_eq _ _).mp q)
              by_cases y1 : mJ μ 7 j' = -1
              · have y1' := (lg_cmp_eq (mJ μ 7 j') (-1)).mpr y1
                by_cases b5 : b = 5
                · exact fin _ _ _ _ _ _ (by rw [if_neg b2', if_neg b3, if_neg b4', if_neg y0', if_pos b5, if_pos y0, y1, dv_m1]; exact mkn _) (by unfold mx_X7_reckon; rw [if_neg b2', if_neg b3, if_neg b4', if_neg y0', if_pos y1', if_pos b5, mx_num_ev μ h9 hT]; rfl) (AO.num h hT h0 hf _)
                · exact fin _ _ _ _ _ _ (by rw [if_neg b2', if_neg b3, if_neg b4', if_neg y0', if_neg b5, if_pos y0, y1, rm_m1]; exact mkn _) (by unfold mx_X7_reckon; rw [if_neg b2', if_neg b3, if_neg b4', if_neg y0', if_pos y1', if_neg b5, mx_num_ev μ h9 hT]; rfl) (AO.num h hT h0 hf _)
              · have y1' : ¬ lg_cmp (mJ μ 7 j') (-1) = 0 := fun q => y1 ((lg_cmp_eq _ _).mp q)
                by_cases b5 : b = 5
                · exact fin _ _ _ _ _ _ (by rw [if_neg b2', if_neg b3, if_neg b4', if_neg y0', if_pos b5, if_pos y0]; exact mkn _) (by unfold mx_X7_reckon; rw [if_neg b2', if_neg b3, if_neg b4', if_neg y0', if_neg y1', if_pos b5, if_pos y0, mx_num_ev μ h9 hT]; rfl) (AO.num h hT h0 hf _)
                · exact fin _ _ _ _ _ _ (by rw [if_neg b2', if_neg b3, if_neg b4', if_neg y0', if_neg b5, if_pos y0]; exact mkn _) (by unfold mx_X7_reckon; rw [if_neg b2', if_neg b3, if_neg b4', if_neg y0', if_neg y1', if_neg b5, if_pos y0, mx_num_ev μ h9 hT]; rfl) (AO.num h hT h0 hf _)
    · refine ⟨none, _, 0, 0, -1, _, ?_, ?_, AO.fail (e := e) h (e13 he).1 (e13 he).2 _ _⟩
      · unfold ex_X1_reckon
        rw [if_pos h3, hl]
        simp only [b2_some, Option.bind_some]
        rw [if_pos trivial, if_pos hfa, if_pos h3, hl']
        simp only [b2_some]
        rw [if_neg (by decide)]
      · rw [hi]
        simp only [b2_some]
        rw [if_neg (by decide), hi']
        simp only [b2_some]
        rw [if_pos trivial]
  · refine ⟨none, _, 0, 0, -1, _, ?_, ?_, AO.fail (e := e) h (e13 he).1 (e13 he).2 _ _⟩
    · unfold ex_X1_reckon
      rw [if_pos h3, hl]
      simp only [b2_some]
      rw [if_neg (by decide)]
    · rw [hi]
      simp only [b2_some]
      rw [if_pos trivial]
theorem act_10 (H : HA d σ μ x pg mc mk sa ls es Fr F N Tn Pn w fa nb 10 va vb vc) : AR d σ μ x pg mc mk sa ls es Fr F N Tn Pn w fa va vb vc := by
  obtain ⟨h5, h4, hop, -, -, hpt, hb, hcl, hb2, h3, hmk, hm4, hmn, h30, h9⟩ := H.f; obtain ⟨h, hT, hw, hfa, hn, hk, ho, hom, h0, hf, pa, pb, pc⟩ := H; have hN := h.2.2.2.1.1
  have e1 : gi σ 404 nb = mI μ 2 (3 * w + 1) := (hpt (by omega)).2.1
  have hnu : mx_X7_number μ (nI w) 1 = some (mI μ 2 (3 * w + 1), μ) := mx_number_ev μ (w := 1) (by omega) (by omega)
  have hge : ex_X3_get d σ nb 1 = some (mI μ 2 (3 * w + 1), σ) := by rw [← e1]; exact ce_get (w := 1) h5 (by omega)
  have mkn : ∀ v, (b4 (ex_X2_withValue d σ mk 1 v) fun r28 s27 k29 n30 => some (r28, s27, 0 + k29, 0 + n30)) = some (some (hs σ), sj (nT σ mk Tn 1) 602 (hs σ) v, 1, 7) := fun v => by
    rw [ce_withValue hm4 hmn h30]
    rfl
  rcases sim_is h hfa hn h5 h4 pa 4 with ⟨t, j, eq, ev, hj, h7, h6, hTk, hk2, hl, hi⟩ | ⟨e, he, hl, hi⟩
  · have hk4 : mI μ 4 j = 4 := by rcases hk2 with q | q; exact q; exact absurd q.1 (by decide)
    have pw := hTk.c4 hk4
    subst ev
    have hjb := nI_bd (n := 50000) (j := j) (by omega) (by omega)
    have hj2 : (nI j).toNatClampNeg = j := nI_clamp (by omega)
    have hjb2 : ¬ (nI j < 0 ∨ 50000 ≤ j) := by rw [hj2] at hjb; exact hjb
    generalize hbb : mI μ 2 (3 * w + 1) = b at hnu hge
    by_cases c0 : b = 0
    · refine ⟨gp σ 603 t, σ, 0, 0, mI μ 5 j, μ, ?_, ?_, AO.same h h0 hf pw⟩
      · (unfold ex_X1_finish; simp only [Option.bind_some, hn]; rw [if_pos hfa, if_pos h5, hop, if_neg (by decide), if_neg (by decide), if_neg (by decide), if_neg (by decide), if_neg (by decide), if_neg (by decide), if_neg (by decide), if_neg (by decide), if_pos (by decide), if_pos h3])
        unfold ex_X1_send; simp only [Option.bind_some]; rw [if_pos hfa, if_pos h3, hl]; simp only [b2_some]; rw [if_pos trivial, if_pos hfa]; simp only [eq, hn, Option.bind_some]; rw [if_pos h7, if_pos h5, hge]; simp only [b2_some]
        rw [if_pos c0]
        rfl
      · (unfold mx_X7_act; rw [if_pos hb]; simp only [hcl, hom, b2_id]; rw [if_pos (by decide), if_pos hb2, if_pos (by decide)])
        unfold mx_X7_send; rw [hi]; simp only [b2_some]; rw [if_neg (by decide), hnu]; simp only [b2_some]; rw [if_pos hjb]; simp only [hj2]
        rw [if_pos c0]
    · by_cases c1 : b = 1
      · refine ⟨gp σ 603 t, sp σ 603 t (gp σ 107 fa), 0, 0, mI μ 5 j, uI μ 5 j vc, ?_, ?_, AO.st h h0 hf (h.fld1 h7 h6 hj (Or.inr (Or.inr hk4)) hTk pc) (AgO.sp h.2.1 (by decide)) ⟨⟨rfl, fun _ => ⟨rfl, rfl, rfl, rfl⟩⟩, fun _ _ => rfl⟩ (sp_d (by omega)) (uI_e (by decide)) rfl rfl rfl (pw.mo (Nat.le_refl _) (fun _ e => ⟨e, rfl⟩))⟩
        · (unfold ex_X1_finish; simp only [Option.bind_some, hn]; rw [if_pos hfa, if_pos h5, hop, if_neg (by decide), if_neg (by decide), if_neg (by decide), if_neg (by decide), if_neg (by decide), if_neg (by decide), if_neg (by decide), if_neg (by decide), if_pos (by decide), if_pos h3])
          unfold ex_X1_send; simp only [Option.bind_some]; rw [if_pos hfa, if_pos h3, hl]; simp only [b2_some]; rw [if_pos trivial, if_pos hfa]; simp only [eq, hn, Option.bind_some]; rw [if_pos h7, if_pos h5, hge]; simp only [b2_some]
          rw [if_neg c0, if_pos c1, if_pos hfa]
          simp only [eq, Option.bind_some]
          rw [if_pos h7]
          rfl
        · (unfold mx_X7_act; rw [if_pos hb]; simp only [hcl, hom, b2_id]; rw [if_pos (by decide), if_pos hb2, if_pos (by decide)])
          unfold mx_X7_send; rw [hi]; simp only [b2_some]; rw [if_neg (by decide), hnu]; simp only [b2_some]; rw [if_pos hjb]; simp only [hj2]
          rw [if_neg c0, if_pos c1, if_pos hjb2, bm_eq]
      · by_cases c7 : b = 7
        · have n26 : ¬ (b = 2 ∨ b = 3 ∨ b = 4 ∨ b = 5 ∨ b = 6) := by rw [c7]; decide
          by_cases es : gp σ 603 t = gp σ 107 fa
          · refine ⟨some (hs σ), _, 1, 7, nI Tn, _, ?_, ?_, AO.num h hT h0 hf 1⟩
            · (unfold ex_X1_finish; simp only [Option.bind_some, hn]; rw [if_pos hfa, if_pos h5, hop, if_neg (by decide), if_neg (by decide), if_neg (by decide), if_neg (by decide), if_neg (by decide), if_neg (by decide), if_neg (by decide), if_neg (by decide), if_pos (by decide), if_pos h3])
              unfold ex_X1_send; simp only [Option.bind_some]; rw [if_pos hfa, if_pos h3, hl]; simp only [b2_some]; rw [if_pos trivial, if_pos hfa]; simp only [eq, hn, Option.bind_some]; rw [if_pos h7, if_pos h5, hge]; simp only [b2_some]
              rw [if_neg c0, if_neg c1, if_neg n26, if_pos c7, if_pos h3, if_pos hfa, if_pos es]
              simp only [hmk, Option.bind_some]
              rw [if_pos hm4, mkn]
              rfl
            · (unfold mx_X7_act; rw [if_pos hb]; simp only [hcl, hom, b2_id]; rw [if_pos (by decide), if_pos hb2, if_pos (by decide)])
              unfold mx_X7_send; rw [hi]; simp only [b2_some]; rw [if_neg (by decide), hnu]; simp only [b2_some]; rw [if_pos hjb]; simp only [hj2]
              rw [if_neg c0, if_neg c1, if_pos c7, if_pos ((pw.inj h.2.2.2.2.1 pc).mp es), mx_num_ev μ h9 hT]
              rfl
          · refine ⟨some (hs σ), _, 1, 7, nI Tn, _, ?_, ?_, AO.num h hT h0 hf 0⟩
            · (unfold ex_X1_finish; simp only [Option.bind_some, hn]; rw [if_pos hfa, if_pos h5, hop, if_neg (by decide), if_neg (by decide), if_neg (by decide), if_neg (by decide), if_neg (by decide), if_neg (by decide), if_neg (by decide), if_neg (by decide), if_pos (by decide), if_pos h3])
              unfold ex_X1_send; simp only [Option.bind_some]; rw [if_pos hfa, if_pos h3, hl]; simp only [b2_some]; rw [if_pos trivial, if_pos hfa]; simp only [eq, hn, Option.bind_some]; rw [if_pos h7, if_pos h5, hge]; simp only [b2_some]
              rw [if_neg c0, if_neg c1, if_neg n26, if_pos c7, if_pos h3, if_pos hfa, if_neg es]
              simp only [hmk, Option.bind_some]
              rw [if_pos hm4, mkn]
              rfl
            · (unfold mx_X7_act; rw [if_pos hb]; simp only [hcl, hom, b2_id]; rw [if_pos (by decide), if_pos hb2, if_pos (by decide)])
              unfold mx_X7_send; rw [hi]; simp only [b2_some]; rw [if_neg (by decide), hnu]; simp only [b2_some]; rw [if_pos hjb]; simp only [hj2]
              rw [if_neg c0, if_neg c1, if_pos c7, if_neg (fun q => es ((pw.inj h.2.2.2.2.1 pc).mpr q)), mx_num_ev μ h9 hT]
              rfl
        · by_cases n26 : b = 2 ∨ b = 3 ∨ b = 4 ∨ b = 5 ∨ b = 6
          · obtain ⟨q, τ, k, n, r, ν, z1, z2, z3⟩ := rk h hT hfa hn h5 h4 h0 hf pc pw b
            refine ⟨q, τ, 0 + (0 + k), 0 + (0 + n), r, ν, ?_, ?_, by rw [Nat.zero_add, Nat.zero_add, Nat.zero_add, Nat.zero_add]; exact z3⟩
            · (unfold ex_X1_finish; simp only [Option.bind_some, hn]; rw [if_pos hfa, if_pos h5, hop, if_neg (by decide), if_neg (by decide), if_neg (by decide), if_neg (by decide), if_neg (by decide), if_neg (by decide), if_neg (by decide), if_neg (by decide), if_pos (by decide), if_pos h3])
              unfold ex_X1_send; simp only [Option.bind_some]; rw [if_pos hfa, if_pos h3, hl]; simp only [b2_some]; rw [if_pos trivial, if_pos hfa]; simp only [eq, hn, Option.bind_some]; rw [if_pos h7, if_pos h5, hge]; simp only [b2_some]
              rw [if_neg c0, if_neg c1, if_pos n26, if_pos h3, z1]
              rfl
            · (unfold mx_X7_act; rw [if_pos hb]; simp only [hcl, hom, b2_id]; rw [if_pos (by decide), if_pos hb2, if_pos (by decide)])
              unfold mx_X7_send; rw [hi]; simp only [b2_some]; rw [if_neg (by decide), hnu]; simp only [b2_some]; rw [if_pos hjb]; simp only [hj2]
              rw [if_neg c0, if_neg c1, if_neg c7, if_neg (by rcases n26 with rfl | rfl | rfl | rfl | rfl <;> decide), if_pos (by rcases n26 with rfl | rfl | rfl | rfl | rfl <;> decide)]
              exact z2
          · refine ⟨some (hs σ), _, 1, 7, nI Tn, _, ?_, ?_, AO.num h hT h0 hf 0⟩
            · (unfold ex_X1_finish; simp only [Option.bind_some, hn]; rw [if_pos hfa, if_pos h5, hop, if_neg (by decide), if_neg (by decide), if_neg (by decide), if_neg (by decide), if_neg (by decide), if_neg (by decide), if_neg (by decide), if_neg (by decide), if_pos (by decide), if_pos h3])
              unfold ex_X1_send; simp only [Option.bind_some]; rw [if_pos hfa, if_pos h3, hl]; simp only [b2_some]; rw [if_pos trivial, if_pos hfa]; simp only [eq, hn, Option.bind_some]; rw [if_pos h7, if_pos h5, hge]; simp only [b2_some]
              rw [if_neg c0, if_neg c1, if_neg n26, if_neg c7, if_pos h3]
              simp only [hmk, Option.bind_some]
              rw [if_pos hm4, mkn]
              rfl
            · (unfold mx_X7_act; rw [if_pos hb]; simp only [hcl, hom, b2_id]; rw [if_pos (by decide), if_pos hb2, if_pos (by decide)])
              unfold mx_X7_send; rw [hi]; simp only [b2_some]; rw [if_neg (by decide), hnu]; simp only [b2_some]; rw [if_pos hjb]; simp only [hj2]
              rw [if_neg c0, if_neg c1, if_neg c7]
              by_cases l2 : b < 2
              · rw [if_pos l2, mx_num_ev μ h9 hT]
                rfl
              · rw [if_neg l2, if_neg (fun q => ?_), mx_num_ev μ h9 hT]
                · rfl
                · have hp : ¬ b < 0 := fun q2 => l2 (by
                    rw [Int32.lt_iff_toInt_lt] at q2 ⊢
                    have e2 : (2 : Int32).toInt = 2 := by decide
                    have e0 : (0 : Int32).toInt = 0 := by decide
                    omega)
                  obtain ⟨i, hi31, ei⟩ := nI_of hp
                  subst ei
                  rw [show (7 : Int32) = nI 7 from rfl, nI_leI hi31 (by omega)] at q
                  rcases (show i = 0 ∨ i = 1 ∨ i = 2 ∨ i = 3 ∨ i = 4 ∨ i = 5 ∨ i = 6 ∨ i = 7 by omega) with rfl | rfl | rfl | rfl | rfl | rfl | rfl | rfl
                  · exact c0 rfl
                  · exact c1 rfl
                  · exact n26 (Or.inl rfl)
                  · exact n26 (Or.inr (Or.inl rfl))
                  · exact n26 (Or.inr (Or.inr (Or.inl rfl)))
                  · exact n26 (Or.inr (Or.inr (Or.inr (Or.inl rfl))))
                  · exact n26 (Or.inr (Or.inr (Or.inr (Or.inr rfl))))
                  · exact c7 rfl
  · refine ⟨none, _, 0, 0, -1, _, ?_, ?_, AO.fail (e := e) h (e13 he).1 (e13 he).2 _ _⟩
    · (unfold ex_X1_finish; simp only [Option.bind_some, hn]; rw [if_pos hfa, if_pos h5, hop, if_neg (by decide), if_neg (by decide), if_neg (by decide), if_neg (by decide), if_neg (by decide), if_neg (by decide), if_neg (by decide), if_neg (by decide), if_pos (by decide), if_pos h3])
      unfold ex_X1_send
      simp only [Option.bind_some]
      rw [if_pos hfa, if_pos h3, hl]
      simp only [b2_some]
      rw [if_neg (by decide)]
      rfl
    · (unfold mx_X7_act; rw [if_pos hb]; simp only [hcl, hom, b2_id]; rw [if_pos (by decide), if_pos hb2, if_pos (by decide)])
      unfold mx_X7_send
      rw [hi]
      simp only [b2_some]
      rw [if_pos trivial]
end ACT6
