/-- the PART that is worked next, 3 if there is none -/
def nx (o p : Nat) : Nat := if nmd o p = true ∧ p < 3 then p else if nmd o (p + 1) = true ∧ p + 1 < 3 then p + 1 else if nmd o (p + 2) = true ∧ p + 2 < 3 then p + 2 else 3
theorem nx_y {o p : Nat} (h : nmd o p = true) (hp : p < 3) : nx o p = p := by unfold nx; rw [if_pos ⟨h, hp⟩]
theorem nx_3 (o : Nat) : nx o 3 = 3 := by unfold nx; rw [if_neg (by omega), if_neg (by omega), if_neg (by omega)]
theorem nx_n {o p : Nat} (h : ¬ nmd o p = true) (hp : p < 3) : nx o p = nx o (p + 1) := by
  unfold nx
  rw [if_neg (fun q => h q.1)]
  by_cases h1 : nmd o (p + 1) = true ∧ p + 1 < 3
  · rw [if_pos h1, if_pos h1]
  · rw [if_neg h1, if_neg h1]
    by_cases h2 : nmd o (p + 2) = true ∧ p + 2 < 3
    · rw [if_pos h2, if_pos h2]
    · rw [if_neg h2, if_neg h2, if_neg (by omega)]
theorem nx_le (o p : Nat) : nx o p ≤ 3 := by unfold nx; split; omega; split; omega; split; omega; omega
theorem nx_nm {o p : Nat} (h : nx o p ≠ 3) : nmd o (nx o p) = true ∧ nx o p < 3 := by
  unfold nx at h ⊢
  split
  · assumption
  · split
    · assumption
    · split
      · assumption
      · rename_i h1 h2 h3
        rw [if_neg h1, if_neg h2, if_neg h3] at h
        exact absurd rfl h
section TURN4
variable {d : Dp} {σ τ : Sg} {μ ν : Mu} {x pg mc mk sa ls es : Nat} {Fr Fr' : Nat → Nat} {F N Tn Tm Pn Pm D E f j n o p L K S0 P P' : Nat}
theorem ce_next {b : Nat} (hfa : gc σ f = 2) (hn : gp σ 103 f = some b) (h5 : gc σ b = 5) (hop : gi σ 401 b = nI o) (ho : o ≤ 20) : ∀ m p g, p + m = 3 → m < g → lp_X1_nextInOrder g d σ mc (some f) (nI p) = some (nI (nx o p), σ) := by
  intro m
  induction m with
  | zero =>
    intro p g h1 h2
    obtain ⟨g, rfl⟩ : ∃ y, g = y + 1 := ⟨g - 1, by omega⟩
    have e : p = 3 := by omega
    subst e
    rw [lp_X1_nextInOrder, if_pos (by decide), nx_3]
    rfl
  | succ m ih =>
    intro p g h1 h2
    obtain ⟨g, rfl⟩ : ∃ y, g = y + 1 := ⟨g - 1, by omega⟩
    rw [lp_X1_nextInOrder, if_neg (fun q => by rw [show (2 : Int32) = nI 2 from rfl, nI_ltI (by omega) (by omega)] at q; omega)]
    simp only [Option.bind_some]
    rw [if_pos hfa, hn]
    simp only [Option.bind_some]
    rw [if_pos h5, ce_works h5 hop ho (by omega)]
    simp only [b2_some]
    by_cases w : nmd o p = true
    · rw [if_pos w, if_neg (by decide), nx_y w (by omega)]
    · rw [if_neg w, if_pos rfl, nI_1, ih (p + 1) g (by omega) (by omega), nx_n w (by omega)]
/-- how the reference finishes a NODE that is worked in order -/
def Ea (μ : Mu) (n D : Nat) : Option (Unit × Mu) := b2 (mx_X7_act μ (nI n) (mI μ 12 (3 * D - 3 + 0)) (mI μ 12 (3 * D - 3 + 1)) (mI μ 12 (3 * D - 3 + 2))) fun r m => (if mS m 820 = 0 then some ((), uS (uS m 819 r) 818 (mS m 818 - 1)) else some ((), m))
theorem mx_next (hn : n < 4000) (ho : o ≤ 20) (h1 : mI μ 1 n = nI o) (h2 : ∀ o, o ≤ 20 → mI μ 0 o = nI (nmT.getD o 0)) (hd : mS μ 818 = nI D) (hD1 : 1 ≤ D) (hD : D ≤ 200) : ∀ m p g, p + m = 3 → m < g → lq_X7_eager g μ (nI n) (nI p) (nI (3 * D - 3)) = if nx o p = 3 then Ea μ n D else mx_X7_begin (uI μ 11 D (nI (nx o p + 1))) (nI n) (nI (nx o p)) := by
  intro m
  induction m with
  | zero =>
    intro p g q1 q2
    obtain ⟨g, rfl⟩ : ∃ y, g = y + 1 := ⟨g - 1, by omega⟩
    have e : p = 3 := by omega
    subst e
    have b0 := nI_bd (n := 603) (j := 3 * D - 3) (by omega) (by omega)
    have b1 := nI_bd (n := 603) (j := 3 * D - 3 + 1) (by omega) (by omega)
    have b2' := nI_bd (n := 603) (j := 3 * D - 3 + 2) (by omega) (by omega)
    rw [lq_X7_eager, if_pos (by decide), if_pos (by decide), if_pos b0, show nI (3 * D - 3) + 1 = nI (3 * D - 3 + 1) from nI_1 _, if_pos b1, show nI (3 * D - 3) + 2 = nI (3 * D - 3 + 2) from by rw [show (2 : Int32) = nI 2 from rfl, nI_add], if_pos b2', nI_clamp (by omega), nI_clamp (by omega), nI_clamp (by omega), nx_3, if_pos rfl]
    rfl
  | succ m ih =>
    intro p g q1 q2
    obtain ⟨g, rfl⟩ : ∃ y, g = y + 1 := ⟨g - 1, by omega⟩
    have np : ¬ (3 : Int32) ≤ nI p := fun q => by rw [show (3 : Int32) = nI 3 from rfl, nI_leI (by omega) (by omega)] at q; omega
    rw [lq_X7_eager, if_neg np, mx_isNode_ev μ hn (show p < 3 by omega) ho h1 h2]
    simp only [b2_some]
    by_cases w : nmd o p = true
    · rw [if_pos w, if_neg (by decide), if_neg np, hd, if_pos (nI_bd (by omega) (by omega)), nI_clamp (by omega), bm_eq, nI_1, b2_u, nx_y w (by omega), if_neg (by omega)]
    · rw [if_neg w, if_pos rfl, nI_1, ih (p + 1) g (by omega) (by omega), nx_n w (by omega)]
theorem AgE.S (h : AgE μ ν) : ∀ f, f = 818 ∨ f = 819 ∨ f = 822 ∨ f = 823 ∨ f = 824 ∨ f = 826 ∨ f = 827 → mS ν f = mS μ f := by
  obtain ⟨-, h1, h2, h3, h4, h5, h6, h7⟩ := h
  intro f hf
  rcases hf with rfl | rfl | rfl | rfl | rfl | rfl | rfl
  · exact h1
  · exact h2
  · exact h3
  · exact h4
  · exact h5
  · exact h6
  · exact h7
theorem AgD.I (h : AgD σ τ mc) : ∀ g, g = 207 ∨ g = 208 ∨ g = 209 ∨ g = 210 → gi τ g mc = gi σ g mc := by
  obtain ⟨-, -, h1, h2, h3, h4⟩ := h
  intro f hf
  rcases hf with rfl | rfl | rfl | rfl
  · exact h1
  · exact h2
  · exact h3
  · exact h4
theorem es_ap (hC : CR d σ μ x pg mc mk sa ls es Fr F N Tn Pn) (hN : 0 < N) (o : AgO σ τ) : ∀ i, ap τ es i = ap σ es i := fun i => by
  have h13 : gc σ es = 13 := by rcases hC.2.2.2.1.2.2.2.2.1 with k | k <;> omega
  exact o.2.2.2.2.2 es i h13
theorem turn_eager (G : GM d σ μ x pg mc mk sa ls es Fr F N Tn Pn (D + 1) L K S0) (ht : Tn + sc μ (D + 1) ≤ S0 + K) (a : FA σ μ N es (Fr (D + 1)) (D + 1) n o p) (eo : eg o) (st : (p = 0 ∧ FW σ μ Tn (Fr (D + 1)) (D + 1) o) ∨ (1 ≤ p ∧ FP σ μ Tn (Fr (D + 1)) (D + 1) o p)) : PC d x pg mc mk sa ls es F N Tn Pn S0 (ph μ (D + 1) L) (ex_X1_takeTurn d σ mc) (mx_X7_forward μ (nI n)) := by
  obtain ⟨b, hn, h5, h4, hop, hNk, hpt⟩ := a.nd G.1; obtain ⟨a1, a2, a3, a4, a5, a6, a7, a8⟩ := id a; obtain ⟨hC, hDF, hD1, hm, hb, hk⟩ := id G; obtain ⟨k1, k2, k3, k4⟩ := id hk; have h3 : gc σ mc = 3 := hC.1.2.1; have hfa := (mc_fr hC hDF).1; have f200 := hC.2.2.1.1; have hN5 := hC.2.2.2.1.1; have hcl : (nI n).toNatClampNeg = n := nI_clamp (by omega); have hbd : ¬ (nI n < 0 ∨ 4000 ≤ (nI n).toNatClampNeg) := nI_bd (by omega) (by omega); have hbd2 : ¬ (nI n < 0 ∨ 4000 ≤ n) := by { rw [hcl] at hbd; exact hbd }; have e18 : mS μ 818 = nI (D + 1) := hm.2.1; have dcl : (nI (D + 1)).toNatClampNeg = D + 1 := nI_clamp (by omega); have dbd : ¬ (nI (D + 1) < 0 ∨ 201 ≤ (nI (D + 1)).toNatClampNeg) := nI_bd (by omega) (by omega); have dbd2 : ¬ (nI (D + 1) < 0 ∨ 201 ≤ D + 1) := by { rw [dcl] at dbd; exact dbd }; have t4 : gp σ 204 mc = some (Fr (D + 1)) := hm.1; have dm1 : nI (D + 1) - 1 = nI D := nI_pred D
  have hcr : cr μ (D + 1) = 1 := cr_o (by omega) a2 a5 (by omega) eo.1
  have hs1 := sc_1 μ D hcr
  have hnm := hC.2.2.2.1.2.2.2.2.2.2
  have hN0 : 0 < N := by omega
  have n15 : ¬ nI o = 15 := by rw [show (15 : Int32) = nI 15 from rfl, nI_eq (by omega) (by omega)]; exact eo.1
  have n19 : ¬ nI o = 19 := by rw [show (19 : Int32) = nI 19 from rfl, nI_eq (by omega) (by omega)]; exact eo.2.1
  have n20 : ¬ nI o = 20 := by rw [show (20 : Int32) = nI 20 from rfl, nI_eq (by omega) (by omega)]; exact eo.2.2
  have wk : (p = 0 ∧ gi σ 104 (Fr (D + 1)) = -1) ∨ (1 ≤ p ∧ gi σ 104 (Fr (D + 1)) = nI (p - 1) ∧ nmd o (p - 1) = true) := by
    rcases a8 with k | k | k | k | k
    · exact Or.inl k
    · exact absurd k.1 eo.1
    · exact absurd k.1 eo.2.1
    · exact absurd k.1 eo.2.2
    · exact Or.inr k.2
  have hNP : ex_X1_nextPart d σ mc (some (Fr (D + 1))) = some (nI (nx o p), σ) := by
    unfold ex_X1_nextPart
    simp only [Option.bind_some]
    rw [if_pos hfa, hn]
    simp only [Option.bind_some]
    rw [if_pos h5, hop, if_neg n15, if_neg n19, if_neg n20, if_pos h3]
    unfold ex_X1_nextInOrder
    simp only [Option.bind_some]
    rw [if_pos hfa]
    have e : gi σ 104 (Fr (D + 1)) + 1 = nI p := by
      rcases wk with ⟨e0, e⟩ | ⟨e0, e, -⟩
      · rw [e, e0]; rfl
      · rw [e, nI_1, show p - 1 + 1 = p by omega]
    rw [e, ce_next hfa hn h5 hop a4 (3 - p) p 300 (by omega) (by omega)]
    rfl
  have hMF : mx_X7_forward μ (nI n) = mx_X7_eager μ (nI n) := by
    unfold mx_X7_forward
    rw [if_pos hbd, hcl, a5, if_neg n15, if_pos hbd2, if_neg n19, if_pos hbd2, if_neg n20, b2_u]
  -- the latest is put away
  obtain ⟨μ', lm, us, hSq, hJq, h12, hEv, hFW, hvb⟩ : ∃ μ', LM μ μ' ∧ (∀ j, 1 ≤ j → j ≤ D → USm μ μ' j) ∧ (∀ f, mS μ' f = mS μ f) ∧ (∀ k i, mJ μ' k i = mJ μ k i) ∧ (∀ k i, k ≠ 12 → mI μ' k i = mI μ k i) ∧ mx_X7_eager μ (nI n) = lq_X7_eager 300 μ' (nI n) (nI p) (nI (3 * (D + 1) - 3)) ∧ FW σ μ' Tn (Fr (D + 1)) (D + 1) o ∧ (o = 18 → nx o p = 3 → pr σ Tn (gp σ 108 (Fr (D + 1))) (mI μ' 12 (3 * (D + 1) - 3 + 1))) := by
    rcases st with ⟨e, hw⟩ | ⟨hp, hfp⟩
    · subst e
      refine ⟨μ, LM.rf, fun _ _ _ => USm.rf, fun _ => rfl, fun _ _ => rfl, fun _ _ _ => rfl, ?_, hw, fun e18' e3 => ?_⟩
      · unfold mx_X7_eager
        rw [e18, if_pos dbd, dcl, a7, if_pos (by decide), i3m (by omega)]
      · subst e18'
        exact absurd e3 (by decide)
    · refine ⟨uI μ 12 (3 * (D + 1) - 3 + (p - 1)) (mS μ 819), LM.rf.uI (by omega), fun j q1 q2 => top_u (Or.inr ⟨rfl, by omega⟩) (fun q => absurd q (by decide)) q1 q2, fun _ => rfl, fun _ _ => rfl, fun k i hk => by rw [q_mI_uI, if_neg (fun q => hk q.1)], ?_, ?_, ?_⟩
      · unfold mx_X7_eager
        have e1 : nI (3 * (D + 1) - 3) + nI p - 1 = nI (3 * (D + 1) - 3 + (p - 1)) := by
          rw [nI_add, show 3 * (D + 1) - 3 + p = (3 * (D + 1) - 3 + (p - 1)) + 1 by omega]
          exact nI_pred _
        rw [e18, if_pos dbd, dcl, a7, if_neg (fun q => by rw [show (0 : Int32) = nI 0 from rfl, nI_leI (by omega) (by omega)] at q; omega), i3m (by omega), e1, if_pos (nI_bd (by omega) (by omega)), nI_clamp (by omega), bm_eq]
      · intro ee i hi
        obtain ⟨f1, f2⟩ := hfp.2.2 ee
        rw [q_mI_uI]
        by_cases e : i + 1 = p
        · rw [if_pos ⟨rfl, by omega⟩, show 105 + i = 104 + p by omega]
          exact f1
        · rw [if_neg (by omega)]
          exact f2 i hi e
      · intro e18' e3
        have hp2 : p = 2 := by
          rcases wk with q | ⟨-, -, q⟩
          · omega
          · subst e18'
            rcases (show p = 1 ∨ p = 2 ∨ p = 3 by omega) with rfl | rfl | rfl
            · exact absurd e3 (by decide)
            · rfl
            · exact absurd q (by decide)
        subst hp2
        rw [q_mI_uI, if_pos ⟨rfl, rfl⟩]
        exact hfp.1
  obtain ⟨G1, hsc⟩ := G.top (τ := σ) (ν := μ') LO.rf lm (fun _ _ => FSm.rf) us rfl (fun _ _ => rfl) (fun f _ => hSq f)
  rw [hMF, hEv, mx_next (o := o) (by omega) a4 (by rw [h12 _ _ (by decide)]; exact a5) (fun o ho => by rw [h12 _ _ (by decide)]; exact hnm o ho) (by rw [hSq]; exact e18) (by omega) (by omega) (3 - p) p 300 (by omega) (by omega)]
  by_cases e3 : nx o p = 3
  · rw [if_pos e3]
    rw [e3] at hNP
    have HH : HA d σ μ' x pg mc mk sa ls es Fr F N Tn Pn n (Fr (D + 1)) b o (mI μ' 12 (3 * (D + 1) - 3 + 0)) (mI μ' 12 (3 * (D + 1) - 3 + 1)) (mI μ' 12 (3 * (D + 1) - 3 + 2)) := by
      have m9 := hm.2.2.2.2.2.2.2.2.1
      refine ⟨G1.1, by omega, a1, hfa, hn, ?_, a4, by rw [h12 _ _ (by decide)]; exact a5, by rw [hSq]; exact k1, k3, hFW eo 0 (by omega), hFW eo 1 (by omega), hFW eo 2 (by omega)⟩
      exact hNk.o (AgO.rf hC.2.1) lm.n
    obtain ⟨q, τ, k, n', r, ν, f1, f2, Tm, Pm, c1, c2, c3, c4, c5, c6, c7, c8, c9, c10, c11⟩ := act_all HH eo.1 eo.2.1 eo.2.2 (fun e => hvb e e3)
    have hE : Ea μ' n (D + 1) = (if mS ν 820 = 0 then some ((), uS (uS ν 819 r) 818 (mS ν 818 - 1)) else some ((), ν)) := by
      unfold Ea
      rw [f2]
      rfl
    have apq := es_ap hC hN0 c2
    have opq : ∀ i, mI ν 1 i = mI μ' 1 i := fun i => (c3.1.2 i).2.1
    have hgq : ∀ a, gc σ a = 7 → gc τ a = 7 ∧ gi τ 600 a = gi σ 600 a := fun a ha => ⟨by rw [(c2.2.1 a (by omega)).1]; exact ha, c3.2 a ha⟩
    have fsq : ∀ j, j ≤ F → FSm σ τ (Fr j) := fun j hj => c4.1 (Fr j) (mc_fr hC hj).1
    have usq : ∀ j, USm μ' ν j := fun j => ⟨(c5.1 j).1, (c5.1 j).2.1, (c5.1 j).2.2.2, fun i _ => (c5.1 _).2.2.1⟩
    have m3 : gc τ mc = 3 := c1.1.2.1
    have mnq : MN τ ν mc Fr (D + 1) L K S0 := G1.2.2.2.1.up c4.2.1 (fun g hg => c4.I g (by omega)) (fun f hf => c5.S f (by omega))
    have blq : BL τ ν N es Tm Fr (D + 1) := G1.2.2.2.2.1.mo (fun _ _ => rfl) (fun j _ hj => fsq j (by omega)) (fun j _ _ => usq j) apq opq c6 hgq
    have scq : ∀ D, sc ν D = sc μ' D := fun D => scq_eq opq D (fun j _ _ => ⟨(c5.1 j).1, (c5.1 j).2.1⟩)
    rcases c11 with ⟨z1, z2, z3, z4⟩ | ⟨e, zT, z1, z2, z3, z4, z5, z6⟩
    · rw [hE, if_pos z1, show mS ν 818 - 1 = nI D by rw [c5.S 818 (by omega), hSq, e18]; exact dm1]
      have G2 : GM d τ ν x pg mc mk sa ls es Fr F N Tm Pm (D + 1) L K S0 := ⟨c1, hDF, hD1, mnq, blq, ⟨z1, by rw [c4.I 209 (by omega)]; exact k2, z2, by rw [z3]; exact k4⟩⟩
      refine go_pop G2 (by rw [scq, hsc]; omega) z4 (fun _ _ => rfl) (fun _ _ => rfl) (fun f => ?_) c6 c8 c9 c10 ?_ (fun s hs => tt_fin h3 k3 t4 hNP h3 k3 f1 m3 hs)
      · rw [q_mS_uS]
        by_cases e : f = 818
        · rw [if_pos e, if_pos e]
        · rw [if_neg e, if_neg e, q_mS_uS]
      · unfold ph
        rw [if_pos k1, scq, hsc]
        omega
    · have ne0 : ¬ nI e = 0 := nI_ne0 (by omega) (by omega)
      subst zT
      rw [hE, if_neg (by rw [z3]; exact ne0)]
      have hcl' : ex_X1_close d τ mc (some (Fr (D + 1))) q = some ((), τ) := by
        unfold ex_X1_close
        rw [if_pos m3, if_neg (by rw [z5]; exact ne0)]
      refine ⟨τ, ν, k, n', Fr, F, Tm, Pm, D + 1, L, K, tt_fin h3 k3 t4 hNP h3 k3 f1 m3 hcl', rfl, ⟨c1, hDF, mnq, blq, ?_, Or.inr (Or.inl ⟨⟨e, z1, z2, z3, by rw [c4.I 209 (by omega)]; exact k2, z5, by rw [z6, z4]⟩, fun _ => ⟨n, o, p, (show FA σ μ' N es (Fr (D + 1)) (D + 1) n o p from ⟨a1, by rw [h12 _ _ (by decide)]; exact a2, a3, a4, by rw [h12 _ _ (by decide)]; exact a5, a6, by rw [h12 _ _ (by decide)]; exact a7, a8.mo rfl rfl (hJq _ _)⟩).mo (fsq _ hDF) (usq _) apq opq⟩⟩)⟩, by omega, by omega, c8, by omega, by omega, Or.inr ?_⟩
      · rw [scq, sc, hsc]
        have := cr_le μ' (D + 1)
        omega
      · unfold ph
        rw [if_pos k1, scq, sc, hsc, if_neg (by rw [z3]; exact ne0)]
        have := cr_le μ' (D + 1)
        omega
  · rw [if_neg e3]
    obtain ⟨nm1, nm2⟩ := nx_nm e3
    rw [tt_work h3 k3 t4 nm2 hNP h3 k3]
    obtain ⟨G2, hsc2⟩ := G1.top (τ := σ) (ν := uI μ' 11 (D + 1) (nI (nx o p + 1))) LO.rf (LM.rf.uI (by omega)) (fun _ _ => FSm.rf) (fun j q1 q2 => top_u (Or.inl rfl) (fun _ => rfl) q1 q2) rfl (fun _ _ => rfl) (fun _ _ => rfl)
    refine (go_part (o := o) (p := nx o p + 1) (P := sc μ D + 1) G2 (by rw [hsc2, hsc]) (by omega) a1 (by rw [q_mI_uI, if_neg (by omega), h12 _ _ (by decide)]; exact a2) a3 a4 (by rw [q_mI_uI, if_neg (by omega), h12 _ _ (by decide)]; exact a5) (by omega) (by rw [q_mI_uI, if_pos ⟨rfl, rfl⟩]) (by omega) ?_ (fun ee i hi => ?_) nm2 nm1).le ?_
    · refine Or.inr (Or.inr (Or.inr (Or.inr ⟨eo, by omega, ?_, ?_⟩)))
      · rw [q_gi_si, if_pos ⟨rfl, rfl⟩, Nat.add_sub_cancel]
      · rw [Nat.add_sub_cancel]; exact nm1
    · rw [q_mI_uI, if_neg (by omega)]
      exact hFW ee i hi
    · unfold ph
      rw [if_pos k1]
      omega
end TURN4
