section TURN3
variable {d : Dp} {σ τ : Sg} {μ ν : Mu} {x pg mc mk sa ls es : Nat} {Fr Fr' : Nat → Nat} {F N Tn Tm Pn Pm D E f j n o p L K S0 P P' : Nat}
theorem tm_fs (hC : CR d σ μ x pg mc mk sa ls es Fr F N Tn Pn) (hD : D + 1 ≤ F) {v w : Int64} {j : Nat} (hj : j ≤ D) : FSm σ (sj (sp (sj σ 109 (Fr (D + 1)) v) 108 (Fr (D + 1)) none) 109 (Fr (D + 1)) w) (Fr j) := by
  have hne := hC.2.2.1.inj (show j ≤ F by omega) hD (by omega)
  refine ⟨?_, rfl, ?_, ?_, ?_, ?_, ?_⟩
  · rw [q_gp_sj, q_gp_sp, if_neg (fun q => hne q.2), q_gp_sj]
  · rw [q_gp_sj, q_gp_sp, if_neg (fun q => hne q.2), q_gp_sj]
  · rw [q_gp_sj, q_gp_sp, if_neg (fun q => hne q.2), q_gp_sj]
  · rw [q_gp_sj, q_gp_sp, if_neg (fun q => hne q.2), q_gp_sj]
  · rw [q_gp_sj, q_gp_sp, if_neg (fun q => hne q.2), q_gp_sj]
  · rw [q_gj_sj, if_neg (fun q => hne q.2), q_gj_sp, q_gj_sj, if_neg (fun q => hne q.2)]
theorem tm_fs1 (hC : CR d σ μ x pg mc mk sa ls es Fr F N Tn Pn) (hD : D + 1 ≤ F) {v : Int64} {j : Nat} (hj : j ≤ D) : FSm σ (sp (sj σ 109 (Fr (D + 1)) v) 108 (Fr (D + 1)) none) (Fr j) := by
  have hne := hC.2.2.1.inj (show j ≤ F by omega) hD (by omega)
  refine ⟨?_, rfl, ?_, ?_, ?_, ?_, ?_⟩
  · rw [q_gp_sp, if_neg (fun q => hne q.2), q_gp_sj]
  · rw [q_gp_sp, if_neg (fun q => hne q.2), q_gp_sj]
  · rw [q_gp_sp, if_neg (fun q => hne q.2), q_gp_sj]
  · rw [q_gp_sp, if_neg (fun q => hne q.2), q_gp_sj]
  · rw [q_gp_sp, if_neg (fun q => hne q.2), q_gp_sj]
  · rw [q_gj_sp, q_gj_sj, if_neg (fun q => hne q.2)]
theorem tm_u {v : Int64} {a b : Int32} {j : Nat} (hj : j ≤ D) : USm μ (uI (uS (uJ μ 13 (D + 1) v) 819 a) 11 (D + 1) b) j := by
  refine ⟨?_, ?_, ?_, fun i hi => ?_⟩
  · rw [q_mI_uI, if_neg (by omega), q_mI_uS, q_mI_uJ]
  · rw [q_mI_uI, if_neg (by omega), q_mI_uS, q_mI_uJ]
  · rw [q_mJ_uI, q_mJ_uS, q_mJ_uJ, if_neg (by omega)]
  · rw [q_mI_uI, if_neg (by omega), q_mI_uS, q_mI_uJ]
theorem turn_times (G : GM d σ μ x pg mc mk sa ls es Fr F N Tn Pn (D + 1) L K S0) (ht : Tn + sc μ (D + 1) ≤ S0 + K) (a : FA σ μ N es (Fr (D + 1)) (D + 1) n 20 p) (st : (p = 0 ∧ FW σ μ Tn (Fr (D + 1)) (D + 1) 20) ∨ (1 ≤ p ∧ FP σ μ Tn (Fr (D + 1)) (D + 1) 20 p)) : PC d x pg mc mk sa ls es F N Tn Pn S0 (ph μ (D + 1) L) (ex_X1_takeTurn d σ mc) (mx_X7_forward μ (nI n)) := by
  rcases st with ⟨e, hw⟩ | ⟨hp, hfp⟩
  · subst e
    exact turn_A G ht a (by omega)
  · obtain ⟨b, hn, h5, h4, hop, hNk, hpt⟩ := a.nd G.1; obtain ⟨a1, a2, a3, a4, a5, a6, a7, a8⟩ := id a; obtain ⟨hC, hDF, hD1, hm, hb, hk⟩ := id G; obtain ⟨k1, k2, k3, k4⟩ := id hk; have h3 : gc σ mc = 3 := hC.1.2.1; have hfa := (mc_fr hC hDF).1; have f200 := hC.2.2.1.1; have hN5 := hC.2.2.2.1.1; have hcl : (nI n).toNatClampNeg = n := nI_clamp (by omega); have hbd : ¬ (nI n < 0 ∨ 4000 ≤ (nI n).toNatClampNeg) := nI_bd (by omega) (by omega); have hbd2 : ¬ (nI n < 0 ∨ 4000 ≤ n) := by { rw [hcl] at hbd; exact hbd }; have e18 : mS μ 818 = nI (D + 1) := hm.2.1; have dcl : (nI (D + 1)).toNatClampNeg = D + 1 := nI_clamp (by omega); have dbd : ¬ (nI (D + 1) < 0 ∨ 201 ≤ (nI (D + 1)).toNatClampNeg) := nI_bd (by omega) (by omega); have dbd2 : ¬ (nI (D + 1) < 0 ∨ 201 ≤ D + 1) := by { rw [dcl] at dbd; exact dbd }; have t4 : gp σ 204 mc = some (Fr (D + 1)) := hm.1; have dm1 : nI (D + 1) - 1 = nI D := nI_pred D
    have hcr : cr μ (D + 1) = 1 := cr_o (by omega) a2 a5 (by omega) (by omega)
    have hs1 := sc_1 μ D hcr
    have wk : (p = 1 ∧ gi σ 104 (Fr (D + 1)) = 0) ∨ (p = 2 ∧ gi σ 104 (Fr (D + 1)) = 1 ∧ gj σ 109 (Fr (D + 1)) = mJ μ 13 (D + 1) - 1 ∧ 0 < mJ μ 13 (D + 1)) := by
      rcases a8 with k | k | k | k | k
      · omega
      · omega
      · omega
      · exact k.2
      · exact absurd rfl k.1.2.2
    have NP : ∀ r, ex_X1_nextOfTimes d σ mc (some (Fr (D + 1))) = some r → ex_X1_nextPart d σ mc (some (Fr (D + 1))) = some r := fun r hr => by
      unfold ex_X1_nextPart
      simp only [Option.bind_some]
      rw [if_pos hfa, hn]
      simp only [Option.bind_some]
      rw [if_pos h5, hop, if_neg (by decide), if_neg (by decide), if_pos (by decide), if_pos h3, hr]
      rfl
    have MF : mx_X7_forward μ (nI n) = mx_X7_again μ (nI n) := by
      unfold mx_X7_forward
      rw [if_pos hbd, hcl, a5, if_neg (by decide), if_pos hbd2, if_neg (by decide), if_pos hbd2, if_pos (by decide), b2_u]
    rw [MF]
    rcases wk with ⟨rfl, wk⟩ | ⟨rfl, wk, wl, wp⟩
    · rcases sim_is hC hfa hn h5 h4 (hfp.2.1 rfl) 1 with ⟨t, j, eq, ev, hj, h7, h6, hTk, hk2, hl, hi⟩ | ⟨e, he, hl, hi⟩
      · have hv := hTk.c1 (by rcases hk2 with q | q; exact q; exact absurd q.1 (by decide))
        have h50 := hC.2.2.2.2.1.1
        generalize hvv : mJ μ 7 j = v at hv
        have NT : ∀ r, (if (0 : Int32) ≤ lg_cmp v 1 then some ((1 : Int32), sj (sp (sj σ 109 (Fr (D + 1)) v) 108 (Fr (D + 1)) none) 109 (Fr (D + 1)) (v - 1)) else some ((3 : Int32), sp (sj σ 109 (Fr (D + 1)) v) 108 (Fr (D + 1)) none)) = r → ex_X1_nextOfTimes d σ mc (some (Fr (D + 1))) = r := fun r hr => by
          unfold ex_X1_nextOfTimes
          simp only [Option.bind_some]
          rw [if_pos hfa, wk, if_neg (by decide), if_pos rfl, if_pos h3, hl]
          simp only [b2_some]
          rw [if_pos trivial, if_pos hfa, eq]
          simp only [Option.bind_some]
          have ej : gj (sj σ 109 (Fr (D + 1)) v) 109 (Fr (D + 1)) = v := by rw [q_gj_sj, if_pos ⟨rfl, rfl⟩]
          rw [if_pos h7, hv, ej]
          exact hr
        have MA : ∀ r, (if lg_cmp v 0 ≤ 0 then some ((), uS (uI (uS (uJ μ 13 (D + 1) v) 819 (-1)) 11 (D + 1) (nI 2)) 818 (nI D)) else mx_X7_begin (uI (uS (uJ μ 13 (D + 1) v) 819 (-1)) 11 (D + 1) (nI 2)) (nI n) (nI 1)) = r → mx_X7_again μ (nI n) = r := fun r hr => by
          have e1 : mS (uS (uJ μ 13 (D + 1) v) 819 (-1)) 818 = nI (D + 1) := e18
          have e2 : mS (uI (uS (uJ μ 13 (D + 1) v) 819 (-1)) 11 (D + 1) 2) 818 = nI (D + 1) := e18
          have e3 : mJ (uI (uS (uJ μ 13 (D + 1) v) 819 (-1)) 11 (D + 1) 2) 13 (D + 1) = v := by rw [q_mJ_uI, q_mJ_uS, q_mJ_uJ, if_pos ⟨rfl, rfl⟩]
          unfold mx_X7_again
          rw [e18, if_pos dbd, dcl, a7, if_neg (by decide), if_pos dbd2, if_pos (by decide), hi]
          simp only [b2_some]
          rw [if_neg (by decide), ev, if_pos (nI_bd (by omega) (by omega)), nI_clamp (by omega), hvv, e18, if_pos dbd, dcl, bm_eq, bm_eq, e1, if_pos dbd, dcl, bm_eq, e2, if_pos dbd, dcl, e3, bm_eq, dm1, b2_u]
          exact hr
        by_cases vz : v ≤ 0
        · have c1 : ¬ (0 : Int32) ≤ lg_cmp v 1 := fun q => ((i64_1 v).mp ((lg_cmp_ge v 1).mp q)) vz
          have c2 : lg_cmp v 0 ≤ 0 := (lg_cmp_le v 0).mpr vz
          rw [MA _ (if_pos c2)]
          have NPQ := NP _ (NT _ (if_neg c1))
          obtain ⟨G1, hsc⟩ := G.top (τ := sp (sj σ 109 (Fr (D + 1)) v) 108 (Fr (D + 1)) none) (ν := uI (uS (uJ μ 13 (D + 1) v) 819 (-1)) 11 (D + 1) (nI 2)) (LO.rf.sj.sp (by decide)) ((LM.rf.uJ.uS (by omega)).uI (by omega)) (fun j hj => tm_fs1 hC hDF hj) (fun j _ hj => tm_u hj) rfl (fun _ _ => rfl) (fun f hf => by rw [q_mS_uI, q_mS_uS, if_neg (by omega), q_mS_uJ])
          refine go_pop (r := -1) G1 (by rw [hsc]; omega) pr.nl (fun _ _ => rfl) (fun _ _ => rfl) (fun f => ?_) (Nat.le_refl _) (Nat.le_refl _) (k := 0) (n' := 0) (by omega) (by omega) ?_ (fun s hs => tt_fin h3 k3 t4 NPQ h3 k3 (s15 := sp (sj σ 109 (Fr (D + 1)) v) 108 (Fr (D + 1)) none) ?_ h3 hs)
          · rw [q_mS_uS]
            by_cases e : f = 818
            · rw [if_pos e, if_pos e]
            · rw [if_neg e, if_neg e]
              by_cases e2 : f = 819
              · rw [if_pos e2, e2]; rfl
              · rw [if_neg e2]
          · unfold ph
            rw [if_pos k1, hsc]
            omega
          · rw [fin_latest (σ := sp (sj σ 109 (Fr (D + 1)) v) 108 (Fr (D + 1)) none) (b := b) (o := 20) hfa (by rw [q_gp_sp, if_neg (by omega), q_gp_sj]; exact hn) h5 hop (by omega), q_gp_sp, if_pos ⟨rfl, rfl⟩]
        · have c1 : (0 : Int32) ≤ lg_cmp v 1 := (lg_cmp_ge v 1).mpr ((i64_1 v).mpr vz)
          have c2 : ¬ lg_cmp v 0 ≤ 0 := fun q => vz ((lg_cmp_le v 0).mp q)
          rw [MA _ (if_neg c2), tt_work (w := 1) h3 k3 t4 (by omega) (NP _ (NT _ (if_pos c1))) h3 k3]
          obtain ⟨G1, hsc⟩ := G.top (τ := sj (sp (sj σ 109 (Fr (D + 1)) v) 108 (Fr (D + 1)) none) 109 (Fr (D + 1)) (v - 1)) (ν := uI (uS (uJ μ 13 (D + 1) v) 819 (-1)) 11 (D + 1) (nI 2)) (LO.rf.sj.sp (by decide)).sj ((LM.rf.uJ.uS (by omega)).uI (by omega)) (fun j hj => tm_fs hC hDF hj) (fun j _ hj => tm_u hj) rfl (fun _ _ => rfl) (fun f hf => by rw [q_mS_uI, q_mS_uS, if_neg (by omega), q_mS_uJ])
          refine (go_part (o := 20) (p := 2) (P := sc μ D + 1) G1 (by rw [hsc]) (by omega) a1 (by rw [q_mI_uI, if_neg (by omega)]; exact a2) (by rw [q_gp_sj, q_gp_sp, if_neg (by omega), q_gp_sj]; exact a3) (by omega) (by rw [q_mI_uI, if_neg (by omega)]; exact a5) (by omega) (by rw [q_mI_uI, if_pos ⟨rfl, rfl⟩]) (by omega) ?_ (fun e => absurd rfl e.2.2) (by omega) (by decide)).le ?_
          · refine Or.inr (Or.inr (Or.inr (Or.inl ⟨rfl, Or.inr ⟨rfl, by rw [q_gi_si, if_pos ⟨rfl, rfl⟩]; rfl, ?_, ?_⟩⟩)))
            · rw [q_gj_si, q_gj_sj, if_pos ⟨rfl, rfl⟩, q_mJ_uI, q_mJ_uS, q_mJ_uJ, if_pos ⟨rfl, rfl⟩]
            · rw [q_mJ_uI, q_mJ_uS, q_mJ_uJ, if_pos ⟨rfl, rfl⟩]
              exact i64_2 v vz
          · unfold ph
            rw [if_pos k1]
            omega
      · have NI : ex_X1_nextOfTimes d σ mc (some (Fr (D + 1))) = some (3, fσ σ mc (nI n) (nI e)) := by
          unfold ex_X1_nextOfTimes
          simp only [Option.bind_some]
          rw [if_pos hfa, wk, if_neg (by decide), if_pos rfl, if_pos h3, hl]
          simp only [b2_some]
          rw [if_neg (by decide)]
        have MC : mx_X7_again μ (nI n) = some ((), fμ μ (nI n) (nI e)) := by
          unfold mx_X7_again
          rw [e18, if_pos dbd, dcl, a7, if_neg (by decide), if_pos dbd2, if_pos (by decide), hi]
          simp only [b2_some]
          rw [if_pos trivial]
        rw [tt_fault h3 k3 t4 (NP _ NI) h3 (by rw [(fσ_at ..).1]; exact nI_ne0 (by omega) (by omega)), MC]
        exact go_fault G ht a (e13 he).1 (e13 he).2
    · generalize hvv : mJ μ 13 (D + 1) - 1 = v at wl
      have NT : ∀ r, (if (0 : Int32) ≤ lg_cmp v 1 then some ((1 : Int32), sj σ 109 (Fr (D + 1)) (v - 1)) else some ((3 : Int32), σ)) = r → ex_X1_nextOfTimes d σ mc (some (Fr (D + 1))) = r := fun r hr => by
        unfold ex_X1_nextOfTimes
        simp only [Option.bind_some]
        rw [if_pos hfa, wk, if_neg (by decide), if_neg (by decide), wl]
        exact hr
      have MA : ∀ r, (if lg_cmp v 0 ≤ 0 then some ((), uS (uJ μ 13 (D + 1) v) 818 (nI D)) else mx_X7_begin (uJ μ 13 (D + 1) v) (nI n) (nI 1)) = r → mx_X7_again μ (nI n) = r := fun r hr => by
        have e1 : mS (uJ μ 13 (D + 1) v) 818 = nI (D + 1) := e18
        have e3 : mJ (uJ μ 13 (D + 1) v) 13 (D + 1) = v := by rw [q_mJ_uJ, if_pos ⟨rfl, rfl⟩]
        unfold mx_X7_again
        rw [e18, if_pos dbd, dcl, a7, if_neg (by decide), if_pos dbd2, if_neg (by decide), if_pos dbd2, if_pos dbd2, hvv, bm_eq, e1, if_pos dbd, dcl, e3, bm_eq, dm1, b2_u]
        exact hr
      have hu : ∀ j, 1 ≤ j → j ≤ D → USm μ (uJ μ 13 (D + 1) v) j := fun j _ hj => ⟨rfl, rfl, by rw [q_mJ_uJ, if_neg (by omega)], fun _ _ => rfl⟩
      by_cases vz : v ≤ 0
      · have c1 : ¬ (0 : Int32) ≤ lg_cmp v 1 := fun q => ((i64_1 v).mp ((lg_cmp_ge v 1).mp q)) vz
        have c2 : lg_cmp v 0 ≤ 0 := (lg_cmp_le v 0).mpr vz
        rw [MA _ (if_pos c2)]
        have NPQ := NP _ (NT _ (if_neg c1))
        obtain ⟨G1, hsc⟩ := G.top (τ := σ) (ν := uJ μ 13 (D + 1) v) LO.rf LM.rf.uJ (fun _ _ => FSm.rf) hu rfl (fun _ _ => rfl) (fun _ _ => rfl)
        refine go_pop G1 (by rw [hsc]; omega) hfp.1 (fun _ _ => rfl) (fun _ _ => rfl) (popS (uJ μ 13 (D + 1) v) D) (Nat.le_refl _) (Nat.le_refl _) (k := 0) (n' := 0) (by omega) (by omega) ?_ (fun s hs => tt_fin h3 k3 t4 NPQ h3 k3 (fin_latest hfa hn h5 hop (by omega)) h3 hs)
        unfold ph
        rw [if_pos k1, hsc]
        omega
      · have c1 : (0 : Int32) ≤ lg_cmp v 1 := (lg_cmp_ge v 1).mpr ((i64_1 v).mpr vz)
        have c2 : ¬ lg_cmp v 0 ≤ 0 := fun q => vz ((lg_cmp_le v 0).mp q)
        rw [MA _ (if_neg c2), tt_work (w := 1) h3 k3 t4 (by omega) (NP _ (NT _ (if_pos c1))) h3 k3]
        obtain ⟨G1, hsc⟩ := G.top (τ := sj σ 109 (Fr (D + 1)) (v - 1)) (ν := uJ μ 13 (D + 1) v) LO.rf.sj LM.rf.uJ (fun j hj => ⟨rfl, rfl, rfl, rfl, rfl, rfl, by rw [q_gj_sj, if_neg (fun q => hC.2.2.1.inj (show j ≤ F by omega) hDF (by omega) q.2)]⟩) hu rfl (fun _ _ => rfl) (fun _ _ => rfl)
        refine (go_part (o := 20) (p := 2) (P := sc μ D + 1) G1 (by rw [hsc]) (by omega) a1 a2 a3 (by omega) a5 (by omega) a7 (by omega) ?_ (fun e => absurd rfl e.2.2) (by omega) (by decide)).le ?_
        · refine Or.inr (Or.inr (Or.inr (Or.inl ⟨rfl, Or.inr ⟨rfl, by rw [q_gi_si, if_pos ⟨rfl, rfl⟩]; rfl, ?_, ?_⟩⟩)))
          · rw [q_gj_si, q_gj_sj, if_pos ⟨rfl, rfl⟩, q_mJ_uJ, if_pos ⟨rfl, rfl⟩]
          · rw [q_mJ_uJ, if_pos ⟨rfl, rfl⟩]
            exact i64_2 v vz
        · unfold ph
          rw [if_pos k1]
          omega
end TURN3
