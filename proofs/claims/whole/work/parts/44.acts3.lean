section ACT3
variable {d : Dp} {σ : Sg} {μ : Mu} {x pg mc mk sa ls es : Nat} {Fr : Nat → Nat} {F N Tn Pn w fa nb : Nat} {va vb vc : Int32}
theorem AO.st (h : CR d σ μ x pg mc mk sa ls es Fr F N Tn Pn) (h0 : mS μ 820 = 0) (hf : gi σ 211 mc = 0) {τ : Sg} {ν : Mu} (hc : CR d τ ν x pg mc mk sa ls es Fr F N Tn Pn) (o : AgO σ τ) (ax : AgN μ ν ∧ ∀ a, gc σ a = 7 → gi τ 600 a = gi σ 600 a) (hd : AgD σ τ mc) (he : AgE μ ν) (h1 : mS ν 820 = mS μ 820) (h2 : gi τ 211 mc = gi σ 211 mc) (h3 : gi τ 212 mc = gi σ 212 mc) {q : Option Nat} {r : Int32} (hp : pr τ Tn q r) : AO d σ μ x pg mc mk sa ls es Fr F N Tn Pn w q τ 0 0 r ν :=
  ⟨Tn, Pn, hc, o, ax, hd, he, by omega, by omega, by omega, by omega, by omega, Or.inl ⟨h1.trans h0, h2.trans hf, h3, hp⟩⟩
theorem wp_d {a i : Nat} {q : Option Nat} : AgD σ (wp σ a i q) mc := ⟨fun _ _ => ⟨rfl, rfl, rfl, rfl, rfl, rfl, rfl⟩, rfl, rfl, rfl, rfl, rfl⟩
theorem uI_e {k i : Nat} {v : Int32} (h : k ≠ 10 ∧ k ≠ 11 ∧ k ≠ 12) : AgE μ (uI μ k i v) := ⟨fun j => ⟨by rw [q_mI_uI, if_neg (fun e => h.1 e.1.symm)], by rw [q_mI_uI, if_neg (fun e => h.2.1 e.1.symm)], by rw [q_mI_uI, if_neg (fun e => h.2.2 e.1.symm)], rfl⟩, rfl, rfl, rfl, rfl, rfl, rfl, rfl⟩
theorem sp_d {f a : Nat} {q : Option Nat} (h : 600 ≤ f) : AgD σ (sp σ f a q) mc := by
  refine ⟨fun b _ => ⟨?_, rfl, ?_, ?_, ?_, ?_, rfl⟩, ?_, rfl, rfl, rfl, rfl⟩ <;> (rw [q_gp_sp, if_neg (fun e => by omega)])
theorem slot_in (p : Int32) : (p < 0 ∨ 256 ≤ p) ∨ ∃ i : Nat, i < 256 ∧ p = nI i := by
  by_cases h1 : p < 0
  · exact Or.inl (Or.inl h1)
  · by_cases h2 : 256 ≤ p
    · exact Or.inl (Or.inr h2)
    · obtain ⟨j, hj, e⟩ := nI_of h1
      subst e
      refine Or.inr ⟨j, ?_, rfl⟩
      rw [show (256 : Int32) = nI 256 from rfl, nI_leI (by omega) hj] at h2
      omega
theorem ce_isSlot_no {p : Int32} (h : p < 0 ∨ 256 ≤ p) : ex_X1_isSlot d σ mc p = some (0, σ) := by
  unfold ex_X1_isSlot
  by_cases h1 : p < 0
  · rw [if_pos h1]
  · rw [if_neg h1, if_pos (by rcases h with h | h; exact absurd h h1; exact h)]
theorem ce_isSlot_yes {i : Nat} (h : i < 256) : ex_X1_isSlot d σ mc (nI i) = some (1, σ) := by
  unfold ex_X1_isSlot
  rw [if_neg (nI_nl (by omega)), if_neg (by rw [show (256 : Int32) = nI 256 from rfl, nI_leI (by omega) (by omega)]; omega)]
theorem mx_noSlot_no (n : Int32) {p : Int32} (h : p < 0 ∨ 256 ≤ p) : mx_X7_noSlot μ n p = some (1, fμ μ n 2) := by
  unfold mx_X7_noSlot
  by_cases h1 : p < 0
  · rw [if_pos h1]; rfl
  · rw [if_neg h1, if_pos (by rcases h with h | h; exact absurd h h1; exact h)]; rfl
theorem mx_noSlot_yes (n : Int32) {i : Nat} (h : i < 256) : mx_X7_noSlot μ n (nI i) = some (0, μ) := by
  unfold mx_X7_noSlot
  rw [if_neg (nI_nl (by omega)), if_neg (by rw [show (256 : Int32) = nI 256 from rfl, nI_leI (by omega) (by omega)]; omega)]
theorem act_1 (H : HA d σ μ x pg mc mk sa ls es Fr F N Tn Pn w fa nb 1 va vb vc) : AR d σ μ x pg mc mk sa ls es Fr F N Tn Pn w fa va vb vc := by
  obtain ⟨h5, h4, hop, -, -, hpt, hb, hcl, hb2, h3, hmk, hm4, hmn, h30, h9⟩ := H.f
  obtain ⟨h, hT, hw, hfa, hn, hk, ho, hom, h0, hf, pa, pb, pc⟩ := H
  have hN := h.2.2.2.1.1
  have e0 : gi σ 403 nb = mI μ 2 (3 * w + 0) := (hpt (by omega)).1
  have hsa : gp σ 202 mc = some sa := h.1.2.2.2.2.2.2.2.2.2.2.2.1
  have h12 : gc σ sa = 12 := h.1.2.2.2.2.2.1
  have h256 : gl σ sa = 256 := h.1.2.2.2.2.2.2.1
  have hnu : mx_X7_number μ (nI w) 0 = some (mI μ 2 (3 * w + 0), μ) := mx_number_ev μ (w := 0) (by omega) (by omega)
  have hge : ex_X3_get d σ nb 0 = some (mI μ 2 (3 * w + 0), σ) := by rw [← e0]; exact ce_get (w := 0) h5 (by omega)
  rcases slot_in (mI μ 2 (3 * w + 0)) with hs | ⟨i, hi, e⟩
  · refine ⟨none, _, 0, 0, -1, _, ?_, ?_, AO.fail (e := 2) h (by omega) (by omega) _ _⟩
    · (unfold ex_X1_finish; simp only [Option.bind_some, hn]; rw [if_pos hfa, if_pos h5, hop, if_neg (by decide), if_pos (by decide), if_pos h3])
      unfold ex_X1_useSlot
      simp only [Option.bind_some, hn]
      rw [if_pos hfa, if_pos h5, hge]
      simp only [b2_some]
      rw [if_pos h3, ce_isSlot_no hs]
      simp only [b2_some, hn, Option.bind_some]
      rw [if_pos trivial, if_pos hfa, if_pos h5, if_pos h3, ce_fail h3, h4]
      rfl
    · (unfold mx_X7_act; rw [if_pos hb]; simp only [hcl, hom, b2_id]; rw [if_neg (by decide)]; unfold mx_X7_simple; rw [if_pos hb]; simp only [hcl, hom, b2_id]; rw [if_neg (by decide), if_pos (by decide)])
      rw [hnu]
      simp only [b2_some]
      rw [mx_noSlot_no _ hs]
      simp only [b2_some]
      rw [if_neg (by decide)]
      rfl
  · refine ⟨ap σ sa i, σ, 0, 0, mI μ 9 i, μ, ?_, ?_, AO.same h h0 hf (h.2.2.2.2.2.2.2.1 i hi)⟩
    · (unfold ex_X1_finish; simp only [Option.bind_some, hn]; rw [if_pos hfa, if_pos h5, hop, if_neg (by decide), if_pos (by decide), if_pos h3])
      unfold ex_X1_useSlot
      simp only [Option.bind_some, hn]
      rw [if_pos hfa, if_pos h5, hge]
      simp only [b2_some]
      rw [if_pos h3, e, ce_isSlot_yes hi]
      simp only [b2_some, hn, Option.bind_some, hsa]
      rw [if_neg (by decide), if_pos hfa, if_pos h5, hop, if_neg (by decide), if_pos h3, if_pos h12, if_pos (by rw [h256]; exact nI_bd hi (by omega)), nI_clamp (by omega)]
      rfl
    · (unfold mx_X7_act; rw [if_pos hb]; simp only [hcl, hom, b2_id]; rw [if_neg (by decide)]; unfold mx_X7_simple; rw [if_pos hb]; simp only [hcl, hom, b2_id]; rw [if_neg (by decide), if_pos (by decide)])
      rw [hnu]
      simp only [b2_some]
      rw [e, mx_noSlot_yes _ hi]
      simp only [b2_some]
      rw [if_pos trivial, hnu]
      simp only [b2_some]
      rw [e, if_pos (nI_bd hi (by omega)), nI_clamp (by omega)]
theorem pr.ck {q : Option Nat} {v : Int32} (h : pr σ Tn q v) : q = none ∨ gc σ (q.getD 0) = 7 := by
  rcases h with h | ⟨a, j, h1, -, -, h4, -⟩
  · exact Or.inl h.2
  · rw [h1]; exact Or.inr h4
theorem act_2 (H : HA d σ μ x pg mc mk sa ls es Fr F N Tn Pn w fa nb 2 va vb vc) : AR d σ μ x pg mc mk sa ls es Fr F N Tn Pn w fa va vb vc := by
  obtain ⟨h5, h4, hop, -, -, hpt, hb, hcl, hb2, h3, hmk, hm4, hmn, h30, h9⟩ := H.f
  obtain ⟨h, hT, hw, hfa, hn, hk, ho, hom, h0, hf, pa, pb, pc⟩ := H
  have hN := h.2.2.2.1.1
  have e0 : gi σ 403 nb = mI μ 2 (3 * w + 0) := (hpt (by omega)).1
  have hsa : gp σ 202 mc = some sa := h.1.2.2.2.2.2.2.2.2.2.2.2.1
  have h12 : gc σ sa = 12 := h.1.2.2.2.2.2.1
  have h256 : gl σ sa = 256 := h.1.2.2.2.2.2.2.1
  have hnu : mx_X7_number μ (nI w) 0 = some (mI μ 2 (3 * w + 0), μ) := mx_number_ev μ (w := 0) (by omega) (by omega)
  have hge : ex_X3_get d σ nb 0 = some (mI μ 2 (3 * w + 0), σ) := by rw [← e0]; exact ce_get (w := 0) h5 (by omega)
  rcases slot_in (mI μ 2 (3 * w + 0)) with hs | ⟨i, hi, e⟩
  · refine ⟨none, _, 0, 0, -1, _, ?_, ?_, AO.fail (e := 2) h (by omega) (by omega) _ _⟩
    · (unfold ex_X1_finish; simp only [Option.bind_some, hn]; rw [if_pos hfa, if_pos h5, hop, if_neg (by decide), if_pos (by decide), if_pos h3])
      unfold ex_X1_useSlot
      simp only [Option.bind_some, hn]
      rw [if_pos hfa, if_pos h5, hge]
      simp only [b2_some]
      rw [if_pos h3, ce_isSlot_no hs]
      simp only [b2_some, hn, Option.bind_some]
      rw [if_pos trivial, if_pos hfa, if_pos h5, if_pos h3, ce_fail h3, h4]
      rfl
    · (unfold mx_X7_act; rw [if_pos hb]; simp only [hcl, hom, b2_id]; rw [if_neg (by decide)]; unfold mx_X7_simple; rw [if_pos hb]; simp only [hcl, hom, b2_id]; rw [if_neg (by decide), if_neg (by decide), if_pos (by decide)])
      rw [hnu]
      simp only [b2_some]
      rw [mx_noSlot_no _ hs]
      simp only [b2_some]
      rw [if_neg (by decide)]
      rfl
  · refine ⟨gp σ 106 fa, wp σ sa i (gp σ 106 fa), 0, 0, vb, uI μ 9 i vb, ?_, ?_, AO.st h h0 hf (h.slot pb) (AgO.wp h.2.1 (by rw [h12]; decide)) ⟨⟨rfl, fun _ => ⟨rfl, rfl, rfl, rfl⟩⟩, fun _ _ => rfl⟩ wp_d (uI_e (by decide)) rfl rfl rfl (pb.mo (Nat.le_refl _) (fun _ e => ⟨e, rfl⟩))⟩
    · (unfold ex_X1_finish; simp only [Option.bind_some, hn]; rw [if_pos hfa, if_pos h5, hop, if_neg (by decide), if_pos (by decide), if_pos h3])
      unfold ex_X1_useSlot
      simp only [Option.bind_some, hn]
      rw [if_pos hfa, if_pos h5, hge]
      simp only [b2_some]
      have hbd : ¬ (nI i < 0 ∨ gl σ sa ≤ (nI i).toNatClampNeg) := by rw [h256]; exact nI_bd hi (by omega)
      rw [if_pos h3, e, ce_isSlot_yes hi]
      simp only [b2_some, hn, Option.bind_some, hsa]
      rw [if_neg (by decide), if_pos hfa, if_pos h5, hop, if_pos (by decide), if_pos h3, if_pos h12, if_pos hbd, if_pos pb.ck, if_pos hbd, nI_clamp (by omega), q_ap_wp, if_pos ⟨rfl, rfl⟩]
      rfl
    · (unfold mx_X7_act; rw [if_pos hb]; simp only [hcl, hom, b2_id]; rw [if_neg (by decide)]; unfold mx_X7_simple; rw [if_pos hb]; simp only [hcl, hom, b2_id]; rw [if_neg (by decide), if_neg (by decide), if_pos (by decide)])
      rw [hnu]
      simp only [b2_some]
      rw [e, mx_noSlot_yes _ hi]
      simp only [b2_some]
      rw [if_pos trivial, hnu]
      simp only [b2_some]
      rw [e, if_pos (nI_bd hi (by omega)), nI_clamp (by omega), bm_eq]
theorem act_18 (H : HA d σ μ x pg mc mk sa ls es Fr F N Tn Pn w fa nb 18 va vb vc) (pl : pr σ Tn (gp σ 108 fa) vb) : AR d σ μ x pg mc mk sa ls es Fr F N Tn Pn w fa va vb vc := by
  obtain ⟨h5, h4, hop, -, -, hpt, hb, hcl, hb2, h3, hmk, hm4, hmn, h30, h9⟩ := H.f
  obtain ⟨h, hT, hw, hfa, hn, hk, ho, hom, h0, hf, pa, pb, pc⟩ := H
  refine ⟨gp σ 108 fa, σ, 0, 0, vb, μ, ?_, ?_, AO.same h h0 hf pl⟩
  · (unfold ex_X1_finish; simp only [Option.bind_some, hn]; rw [if_pos hfa, if_pos h5, hop, if_neg (by decide), if_neg (by decide), if_neg (by decide), if_neg (by decide), if_neg (by decide), if_neg (by decide), if_neg (by decide), if_neg (by decide), if_neg (by decide), if_neg (by decide), if_neg (by decide), if_neg (by decide), if_neg (by decide), if_neg (by decide), if_neg (by decide)])
  · (unfold mx_X7_act; rw [if_pos hb]; simp only [hcl, hom, b2_id]; rw [if_pos (by decide), if_pos hb2, if_neg (by decide)]; unfold mx_X7_larger; rw [if_pos hb]; simp only [hcl, hom, b2_id]; rw [if_neg (by decide), if_neg (by decide), if_neg (by decide), if_neg (by decide), if_neg (by decide)])
end ACT3
