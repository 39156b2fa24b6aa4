section TURN2
variable {d : Dp} {σ τ : Sg} {μ ν : Mu} {x pg mc mk sa ls es : Nat} {Fr Fr' : Nat → Nat} {F N Tn Tm Pn Pm D E f j n o p L K S0 P P' : Nat}
theorem popS (μ : Mu) (D : Nat) (f : Nat) : mS (uS μ 818 (nI D)) f = if f = 818 then nI D else if f = 819 then mS μ 819 else mS μ f := by
  rw [q_mS_uS]
  by_cases e : f = 818
  · rw [if_pos e, if_pos e]
  · rw [if_neg e, if_neg e]
    by_cases e2 : f = 819
    · rw [if_pos e2, e2]
    · rw [if_neg e2]
theorem si_top (hC : CR d σ μ x pg mc mk sa ls es Fr F N Tn Pn) (hD : D + 1 ≤ F) {v : Int32} {j : Nat} (hj : j ≤ D) : FSm σ (si σ 104 (Fr (D + 1)) v) (Fr j) := ⟨rfl, by rw [q_gi_si, if_neg (fun q => hC.2.2.1.inj (show j ≤ F by omega) hD (by omega) q.2)], rfl, rfl, rfl, rfl, rfl⟩
theorem sc_1 (μ : Mu) (D : Nat) (h : cr μ (D + 1) = 1) : sc μ (D + 1) = sc μ D + 1 := by rw [sc, h]
/-- OPs whose A is begun first, of its own kind -/
theorem turn_A (G : GM d σ μ x pg mc mk sa ls es Fr F N Tn Pn (D + 1) L K S0) (ht : Tn + sc μ (D + 1) ≤ S0 + K) (a : FA σ μ N es (Fr (D + 1)) (D + 1) n o 0) (ho : o = 15 ∨ o = 19 ∨ o = 20) : PC d x pg mc mk sa ls es F N Tn Pn S0 (ph μ (D + 1) L) (ex_X1_takeTurn d σ mc) (mx_X7_forward μ (nI n)) := by
  obtain ⟨b, hn, h5, h4, hop, hNk, hpt⟩ := a.nd G.1; obtain ⟨a1, a2, a3, a4, a5, a6, a7, a8⟩ := id a; obtain ⟨hC, hDF, hD1, hm, hb, hk⟩ := id G; obtain ⟨k1, k2, k3, k4⟩ := id hk; have h3 : gc σ mc = 3 := hC.1.2.1; have hfa := (mc_fr hC hDF).1; have f200 := hC.2.2.1.1; have hN5 := hC.2.2.2.1.1; have hcl : (nI n).toNatClampNeg = n := nI_clamp (by omega); have hbd : ¬ (nI n < 0 ∨ 4000 ≤ (nI n).toNatClampNeg) := nI_bd (by omega) (by omega); have hbd2 : ¬ (nI n < 0 ∨ 4000 ≤ n) := by { rw [hcl] at hbd; exact hbd }; have e18 : mS μ 818 = nI (D + 1) := hm.2.1; have dcl : (nI (D + 1)).toNatClampNeg = D + 1 := nI_clamp (by omega); have dbd : ¬ (nI (D + 1) < 0 ∨ 201 ≤ (nI (D + 1)).toNatClampNeg) := nI_bd (by omega) (by omega); have dbd2 : ¬ (nI (D + 1) < 0 ∨ 201 ≤ D + 1) := by { rw [dcl] at dbd; exact dbd }; have t4 : gp σ 204 mc = some (Fr (D + 1)) := hm.1; have dm1 : nI (D + 1) - 1 = nI D := nI_pred D
  have w0 : gi σ 104 (Fr (D + 1)) = -1 := by
    rcases a8 with k | k | k | k | k
    · exact k.2
    all_goals omega
  have hNP : ex_X1_nextPart d σ mc (some (Fr (D + 1))) = some (nI 0, σ) := by
    unfold ex_X1_nextPart
    simp only [Option.bind_some]
    rw [if_pos hfa, hn]
    simp only [Option.bind_some]
    rw [if_pos h5, hop]
    rcases ho with rfl | rfl | rfl
    · rw [if_pos (by decide), if_pos w0]
      rfl
    · rw [if_neg (by decide), if_pos (by decide), if_pos h3]
      unfold ex_X1_nextOfIf
      simp only [Option.bind_some]
      rw [if_pos hfa, if_pos w0]
      rfl
    · rw [if_neg (by decide), if_neg (by decide), if_pos (by decide), if_pos h3]
      unfold ex_X1_nextOfTimes
      simp only [Option.bind_some]
      rw [if_pos hfa, if_pos w0]
      rfl
  have hMF : mx_X7_forward μ (nI n) = mx_X7_begin (uI μ 11 (D + 1) (nI 1)) (nI n) (nI 0) := by
    unfold mx_X7_forward
    rw [if_pos hbd, hcl, a5]
    rcases ho with rfl | rfl | rfl
    · rw [if_pos (by decide), e18, if_pos dbd, dcl, a7, if_pos (by decide), b2_u]
      exact mx_part0_ev e18 (by omega) _
    · rw [if_neg (by decide), if_pos hbd2, if_pos (by decide), b2_u]
      unfold mx_X7_choose
      rw [e18, if_pos dbd, dcl, a7, if_pos (by decide), b2_u]
      exact mx_part0_ev e18 (by omega) _
    · rw [if_neg (by decide), if_pos hbd2, if_neg (by decide), if_pos hbd2, if_pos (by decide), b2_u]
      unfold mx_X7_again
      rw [e18, if_pos dbd, dcl, a7, if_pos (by decide), b2_u]
      exact mx_part0_ev e18 (by omega) _
  rw [tt_work h3 k3 t4 (by omega) hNP h3 k3, hMF]
  obtain ⟨G1, hsc⟩ := G.top (ν := uI μ 11 (D + 1) (nI 1)) LO.rf (LM.rf.uI (by omega)) (fun _ _ => FSm.rf) (fun j q1 q2 => top_u (Or.inl rfl) (fun _ => rfl) q1 q2) rfl (fun _ _ => rfl) (fun _ _ => rfl)
  have hcr : cr μ (D + 1) = 1 := cr_1 (by rw [a7]; decide)
  have hs1 := sc_1 μ D hcr
  refine (go_part (p := 1) (P := sc μ D + 1) G1 (by rw [hsc]) (by omega) a1 (by rw [q_mI_uI, if_neg (by omega)]; exact a2) a3 a4 (by rw [q_mI_uI, if_neg (by omega)]; exact a5) (by omega) (by rw [q_mI_uI, if_pos ⟨rfl, rfl⟩]) (by omega) ?_ ?_ (by omega) (by rcases ho with rfl | rfl | rfl <;> decide)).le ?_
  · have e : gi (si σ 104 (Fr (D + 1)) (nI 0)) 104 (Fr (D + 1)) = 0 := by rw [q_gi_si, if_pos ⟨rfl, rfl⟩]; rfl
    rcases ho with rfl | rfl | rfl
    · exact Or.inr (Or.inl ⟨rfl, Or.inl ⟨rfl, e⟩⟩)
    · exact Or.inr (Or.inr (Or.inl ⟨rfl, Or.inl ⟨rfl, e⟩⟩))
    · exact Or.inr (Or.inr (Or.inr (Or.inl ⟨rfl, Or.inl ⟨rfl, e⟩⟩)))
  · intro e
    exfalso
    rcases ho with q | q | q
    · exact e.1 q
    · exact e.2.1 q
    · exact e.2.2 q
  · unfold ph
    rw [if_pos k1]
    omega
theorem turn_try (G : GM d σ μ x pg mc mk sa ls es Fr F N Tn Pn (D + 1) L K S0) (ht : Tn + sc μ (D + 1) ≤ S0 + K) (a : FA σ μ N es (Fr (D + 1)) (D + 1) n 15 p) (st : (p = 0 ∧ FW σ μ Tn (Fr (D + 1)) (D + 1) 15) ∨ (1 ≤ p ∧ FP σ μ Tn (Fr (D + 1)) (D + 1) 15 p)) : PC d x pg mc mk sa ls es F N Tn Pn S0 (ph μ (D + 1) L) (ex_X1_takeTurn d σ mc) (mx_X7_forward μ (nI n)) := by
  rcases st with ⟨e, hw⟩ | ⟨hp, hfp⟩
  · subst e
    exact turn_A G ht a (by omega)
  · obtain ⟨b, hn, h5, h4, hop, hNk, hpt⟩ := a.nd G.1; obtain ⟨a1, a2, a3, a4, a5, a6, a7, a8⟩ := id a; obtain ⟨hC, hDF, hD1, hm, hb, hk⟩ := id G; obtain ⟨k1, k2, k3, k4⟩ := id hk; have h3 : gc σ mc = 3 := hC.1.2.1; have hfa := (mc_fr hC hDF).1; have f200 := hC.2.2.1.1; have hN5 := hC.2.2.2.1.1; have hcl : (nI n).toNatClampNeg = n := nI_clamp (by omega); have hbd : ¬ (nI n < 0 ∨ 4000 ≤ (nI n).toNatClampNeg) := nI_bd (by omega) (by omega); have hbd2 : ¬ (nI n < 0 ∨ 4000 ≤ n) := by { rw [hcl] at hbd; exact hbd }; have e18 : mS μ 818 = nI (D + 1) := hm.2.1; have dcl : (nI (D + 1)).toNatClampNeg = D + 1 := nI_clamp (by omega); have dbd : ¬ (nI (D + 1) < 0 ∨ 201 ≤ (nI (D + 1)).toNatClampNeg) := nI_bd (by omega) (by omega); have dbd2 : ¬ (nI (D + 1) < 0 ∨ 201 ≤ D + 1) := by { rw [dcl] at dbd; exact dbd }; have t4 : gp σ 204 mc = some (Fr (D + 1)) := hm.1; have dm1 : nI (D + 1) - 1 = nI D := nI_pred D
    have w0 : ¬ gi σ 104 (Fr (D + 1)) = -1 := by
      rcases a8 with k | k | k | k | k
      · omega
      · rcases k.2 with k | k
        · rw [k.2]; decide
        · rw [k.2]; decide
      · omega
      · omega
      · exact absurd rfl k.1.1
    have hNP : ex_X1_nextPart d σ mc (some (Fr (D + 1))) = some (3, σ) := by
      unfold ex_X1_nextPart
      simp only [Option.bind_some]
      rw [if_pos hfa, hn]
      simp only [Option.bind_some]
      rw [if_pos h5, hop, if_pos (by decide), if_neg w0]
    have hMF : mx_X7_forward μ (nI n) = some ((), uS μ 818 (nI D)) := by
      unfold mx_X7_forward
      rw [if_pos hbd, hcl, a5, if_pos (by decide), e18, if_pos dbd, dcl, a7, if_neg (fun q => by rw [show (0 : Int32) = nI 0 from rfl, nI_leI (by omega) (by omega)] at q; omega), bm_eq, dm1]
    rw [hMF]
    have hsm : sc μ (D + 1) = sc μ D + cr μ (D + 1) := rfl
    refine go_pop G (by omega) hfp.1 (fun _ _ => rfl) (fun _ _ => rfl) (popS μ D) (Nat.le_refl _) (Nat.le_refl _) (k := 0) (n' := 0) (by omega) (by omega) ?_ (fun s hs => tt_fin h3 k3 t4 hNP h3 k3 (fin_latest hfa hn h5 hop (by omega)) h3 hs)
    unfold ph
    rw [if_pos k1]
    omega
theorem turn_if (G : GM d σ μ x pg mc mk sa ls es Fr F N Tn Pn (D + 1) L K S0) (ht : Tn + sc μ (D + 1) ≤ S0 + K) (a : FA σ μ N es (Fr (D + 1)) (D + 1) n 19 p) (st : (p = 0 ∧ FW σ μ Tn (Fr (D + 1)) (D + 1) 19) ∨ (1 ≤ p ∧ FP σ μ Tn (Fr (D + 1)) (D + 1) 19 p)) : PC d x pg mc mk sa ls es F N Tn Pn S0 (ph μ (D + 1) L) (ex_X1_takeTurn d σ mc) (mx_X7_forward μ (nI n)) := by
  rcases st with ⟨e, hw⟩ | ⟨hp, hfp⟩
  · subst e
    exact turn_A G ht a (by omega)
  · obtain ⟨b, hn, h5, h4, hop, hNk, hpt⟩ := a.nd G.1; obtain ⟨a1, a2, a3, a4, a5, a6, a7, a8⟩ := id a; obtain ⟨hC, hDF, hD1, hm, hb, hk⟩ := id G; obtain ⟨k1, k2, k3, k4⟩ := id hk; have h3 : gc σ mc = 3 := hC.1.2.1; have hfa := (mc_fr hC hDF).1; have f200 := hC.2.2.1.1; have hN5 := hC.2.2.2.1.1; have hcl : (nI n).toNatClampNeg = n := nI_clamp (by omega); have hbd : ¬ (nI n < 0 ∨ 4000 ≤ (nI n).toNatClampNeg) := nI_bd (by omega) (by omega); have hbd2 : ¬ (nI n < 0 ∨ 4000 ≤ n) := by { rw [hcl] at hbd; exact hbd }; have e18 : mS μ 818 = nI (D + 1) := hm.2.1; have dcl : (nI (D + 1)).toNatClampNeg = D + 1 := nI_clamp (by omega); have dbd : ¬ (nI (D + 1) < 0 ∨ 201 ≤ (nI (D + 1)).toNatClampNeg) := nI_bd (by omega) (by omega); have dbd2 : ¬ (nI (D + 1) < 0 ∨ 201 ≤ D + 1) := by { rw [dcl] at dbd; exact dbd }; have t4 : gp σ 204 mc = some (Fr (D + 1)) := hm.1; have dm1 : nI (D + 1) - 1 = nI D := nI_pred D
    have hcr : cr μ (D + 1) = 1 := cr_o (by omega) a2 a5 (by omega) (by omega)
    have hs1 := sc_1 μ D hcr
    have wk : (p = 1 ∧ gi σ 104 (Fr (D + 1)) = 0) ∨ (p = 2 ∧ (gi σ 104 (Fr (D + 1)) = 1 ∨ gi σ 104 (Fr (D + 1)) = 2)) := by
      rcases a8 with k | k | k | k | k
      · omega
      · omega
      · exact k.2
      · omega
      · exact absurd rfl k.1.2.1
    have NP : ∀ r, ex_X1_nextOfIf d σ mc (some (Fr (D + 1))) = some r → ex_X1_nextPart d σ mc (some (Fr (D + 1))) = some r := fun r hr => by
      unfold ex_X1_nextPart
      simp only [Option.bind_some]
      rw [if_pos hfa, hn]
      simp only [Option.bind_some]
      rw [if_pos h5, hop, if_neg (by decide), if_pos (by decide), if_pos h3, hr]
      rfl
    have MF : mx_X7_forward μ (nI n) = mx_X7_choose μ (nI n) := by
      unfold mx_X7_forward
      rw [if_pos hbd, hcl, a5, if_neg (by decide), if_pos hbd2, if_pos (by decide), b2_u]
    rw [MF]
    rcases wk with ⟨rfl, wk⟩ | ⟨rfl, wk⟩
    · rcases sim_is hC hfa hn h5 h4 (hfp.2.1 rfl) 1 with ⟨t, j, eq, ev, hj, h7, h6, hTk, hk2, hl, hi⟩ | ⟨e, he, hl, hi⟩
      · have hv := hTk.c1 (by rcases hk2 with q | q; exact q; exact absurd q.1 (by decide))
        have h50 := hC.2.2.2.2.1.1
        have NI : ∀ wh : Nat, (wh = if lg_cmp (mJ μ 7 j) 0 = 0 then 2 else 1) → ex_X1_nextOfIf d σ mc (some (Fr (D + 1))) = some (nI wh, σ) := fun wh e => by
          unfold ex_X1_nextOfIf
          simp only [Option.bind_some]
          rw [if_pos hfa, wk, if_neg (by decide), if_pos rfl, if_pos h3, hl]
          simp only [b2_some]
          rw [if_pos trivial, if_pos hfa, eq]
          simp only [Option.bind_some]
          rw [if_pos h7, hv]
          subst e
          by_cases z : lg_cmp (mJ μ 7 j) 0 = 0
          · rw [if_pos z, if_pos z]; rfl
          · rw [if_neg z, if_neg z]; rfl
        have MC : ∀ wh : Nat, (wh = if lg_cmp (mJ μ 7 j) 0 = 0 then 2 else 1) → mx_X7_choose μ (nI n) = mx_X7_begin (uI μ 11 (D + 1) (nI 2)) (nI n) (nI wh) := fun wh e => by
          unfold mx_X7_choose
          rw [e18, if_pos dbd, dcl, a7, if_neg (by decide), if_pos dbd2, if_neg (by decide), hi]
          simp only [b2_some]
          rw [if_neg (by decide), e18, if_pos dbd, dcl, bm_eq, q_mS_uI, ev, if_pos (nI_bd (by omega) (by omega)), nI_clamp (by omega), q_mJ_uI, b2_u, b2_u]
          subst e
          by_cases z : lg_cmp (mJ μ 7 j) 0 = 0
          · rw [if_pos z, if_pos z]; rfl
          · rw [if_neg z, if_neg z]; rfl
        have two : ∃ wh : Nat, (wh = if lg_cmp (mJ μ 7 j) 0 = 0 then 2 else 1) ∧ (wh = 1 ∨ wh = 2) := by
          by_cases z : lg_cmp (mJ μ 7 j) 0 = 0
          · exact ⟨2, by rw [if_pos z], by omega⟩
          · exact ⟨1, by rw [if_neg z], by omega⟩
        obtain ⟨wh, e1, e2⟩ := two
        rw [tt_work h3 k3 t4 (show wh < 3 by omega) (NP _ (NI wh e1)) h3 k3, MC wh e1]
        obtain ⟨G1, hsc⟩ := G.top (ν := uI μ 11 (D + 1) (nI 2)) LO.rf (LM.rf.uI (by omega)) (fun _ _ => FSm.rf) (fun j q1 q2 => top_u (Or.inl rfl) (fun _ => rfl) q1 q2) rfl (fun _ _ => rfl) (fun _ _ => rfl)
        refine (go_part (p := 2) (P := sc μ D + 1) G1 (by rw [hsc]) (by omega) a1 (by rw [q_mI_uI, if_neg (by omega)]; exact a2) a3 a4 (by rw [q_mI_uI, if_neg (by omega)]; exact a5) (show 2 ≤ 3 by omega) (by rw [q_mI_uI, if_pos ⟨rfl, rfl⟩]) (by omega) ?_ (fun e => absurd rfl e.2.1) (by omega) (by rcases e2 with rfl | rfl <;> decide)).le ?_
        · refine Or.inr (Or.inr (Or.inl ⟨rfl, Or.inr ⟨rfl, ?_⟩⟩))
          rw [q_gi_si, if_pos ⟨rfl, rfl⟩]
          rcases e2 with rfl | rfl
          · exact Or.inl rfl
          · exact Or.inr rfl
        · unfold ph
          rw [if_pos k1]
          omega
      · have NI : ex_X1_nextOfIf d σ mc (some (Fr (D + 1))) = some (3, fσ σ mc (nI n) (nI e)) := by
          unfold ex_X1_nextOfIf
          simp only [Option.bind_some]
          rw [if_pos hfa, wk, if_neg (by decide), if_pos rfl, if_pos h3, hl]
          simp only [b2_some]
          rw [if_neg (by decide)]
        have MC : mx_X7_choose μ (nI n) = some ((), fμ μ (nI n) (nI e)) := by
          unfold mx_X7_choose
          rw [e18, if_pos dbd, dcl, a7, if_neg (by decide), if_pos dbd2, if_neg (by decide), hi]
          simp only [b2_some]
          rw [if_pos trivial]
        rw [tt_fault h3 k3 t4 (NP _ NI) h3 (by rw [(fσ_at ..).1]; exact nI_ne0 (by omega) (by omega)), MC]
        exact go_fault G ht a (e13 he).1 (e13 he).2
    · have w1 : ¬ gi σ 104 (Fr (D + 1)) = -1 ∧ ¬ gi σ 104 (Fr (D + 1)) = 0 := by
        rcases wk with q | q <;> (rw [q]; decide)
      have NI : ex_X1_nextOfIf d σ mc (some (Fr (D + 1))) = some (3, σ) := by
        unfold ex_X1_nextOfIf
        simp only [Option.bind_some]
        rw [if_pos hfa, if_neg w1.1, if_neg w1.2]
      have MC : mx_X7_choose μ (nI n) = some ((), uS μ 818 (nI D)) := by
        unfold mx_X7_choose
        rw [e18, if_pos dbd, dcl, a7, if_neg (by decide), if_pos dbd2, if_pos (by decide), bm_eq, dm1]
      rw [MC]
      refine go_pop G (by omega) hfp.1 (fun _ _ => rfl) (fun _ _ => rfl) (popS μ D) (Nat.le_refl _) (Nat.le_refl _) (k := 0) (n' := 0) (by omega) (by omega) ?_ (fun s hs => tt_fin h3 k3 t4 (NP _ NI) h3 k3 (fin_latest hfa hn h5 hop (by omega)) h3 hs)
      unfold ph
      rw [if_pos k1]
      omega
end TURN2
