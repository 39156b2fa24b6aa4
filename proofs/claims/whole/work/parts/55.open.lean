section OPEN
variable {d : Dp} {σ τ : Sg} {μ ν : Mu} {x pg mc mk sa ls es : Nat} {Fr Fr' : Nat → Nat} {F N Tn Tm Pn D E f j n o p L K S0 : Nat}
theorem mc_fr (h : CR d σ μ x pg mc mk sa ls es Fr F N Tn Pn) {i : Nat} (hi : i ≤ F) : gc σ (Fr i) = 2 ∧ gi σ 101 (Fr i) = nI i := ⟨(h.2.2.1.2.1 i hi).1, (h.2.2.1.2.1 i hi).2.1⟩
theorem ph_eq (h1 : ∀ i, mI ν 1 i = mI μ 1 i) (h : ∀ j, 1 ≤ j → j ≤ D → mI ν 10 j = mI μ 10 j ∧ mI ν 11 j = mI μ 11 j) : ph ν D L = 4 * L + D + sc μ D + (if mS ν 820 = 0 then 1 else 0) := by
  unfold ph
  rw [scq_eq h1 D h]
/-- 'open' and 'enter' -/
theorem L_open (h : CR d σ μ x pg mc mk sa ls es Fr F N Tn Pn) (hD : D ≤ F) (hm : MN σ μ mc Fr D L K S0) (hb : BL σ μ N es Tn Fr (D + 1)) (ht : Tn + sc μ D ≤ S0 + K) (hk : OK σ μ mc) {c b : Nat} (hc : c < N) (hcb : ap σ es c = some b) (hN : Nk σ μ N b c) : PC d x pg mc mk sa ls es F N Tn Pn S0 (ph μ D L) (ex_X1_open d σ mc (some b)) (mx_X7_enter μ (nI c)) := by
  obtain ⟨m1, m2, m3, m4, m5, m6, m7, m8, m9, m10, m11⟩ := id hm
  obtain ⟨k1, k2, k3, k4⟩ := id hk
  have h3 : gc σ mc = 3 := h.1.2.1
  have f1 := h.2.2.1.1
  obtain ⟨fD1, fD2⟩ := mc_fr h hD
  have hP : ph μ D L = 4 * L + D + sc μ D + 1 := by unfold ph; rw [if_pos k1]
  rcases Nat.eq_zero_or_pos L with e | e
  · subst e
    refine ⟨si σ 209 mc 1, uS μ 820 (-1), 0, 0, Fr, F, Tn, Pn, D, 0, K, ?_, ?_, ⟨h.lo (LO.rf.si (by decide)) (LM.rf.uS (by omega)), hD, ⟨m1, m2, m3, m4, ?_, ?_, m7, ?_, m9, m10, m11⟩, ?_, ?_, Or.inl ⟨?_, ?_, ?_, ?_⟩⟩, by omega, by omega, by omega, by omega, by omega, Or.inl ?_⟩
    · unfold ex_X1_open
      rw [if_pos h3, if_neg (by rw [m5, m6, nI_ltI (by omega) (by omega)]; omega)]
    · exact mx_enter_0 μ _ m3
    · rw [q_gi_si, if_neg (by omega)]; exact m5
    · rw [q_gi_si, if_neg (by omega)]; exact m6
    · rw [q_gi_si, if_neg (by omega)]; exact m8
    · intro j hj1 hj2
      obtain ⟨n, o, p, a1, a2, a3⟩ := hb j hj1 (by omega)
      have s : FSm σ (si σ 209 mc 1) (Fr j) := ⟨rfl, by rw [q_gi_si, if_neg (by omega)], rfl, rfl, rfl, rfl, rfl⟩
      exact ⟨n, o, p, a1.mo s ⟨rfl, rfl, rfl, fun _ _ => rfl⟩ (fun _ => rfl) (fun _ => rfl), a2, a3.mo s ⟨rfl, rfl, rfl, fun _ _ => rfl⟩ (Nat.le_refl _) (fun _ q => ⟨q, by rw [q_gi_si, if_neg (by omega)]⟩)⟩
    · rw [scq_eq (μ := μ) (ν := uS μ 820 (-1)) (fun _ => rfl) D (fun _ _ _ => ⟨rfl, rfl⟩)]; exact ht
    · rw [q_mS_uS, if_pos rfl]
    · rw [q_gi_si, if_pos ⟨rfl, rfl⟩]
    · rw [q_gi_si, if_neg (by omega)]; exact k3
    · rw [q_gi_si, if_neg (by omega)]; exact k4
    · rw [q_mS_uS, if_pos rfl]
  · obtain ⟨L', rfl⟩ : ∃ l, L = l + 1 := ⟨L - 1, by omega⟩
    have lt : gi σ 210 mc < gi σ 208 mc := by rw [m5, m6, nI_ltI (by omega) (by omega)]; omega
    by_cases e2 : D = 200
    · subst e2
      obtain ⟨n, o, p, a1, a2, a3⟩ := hb 200 (by omega) (by omega)
      have s : ∀ j, FSm σ (fσ (si σ 210 mc (nI (K + 1))) mc (nI c) 7) j := fun j => ⟨rfl, by unfold fσ; rw [q_gi_si, if_neg (by omega), q_gi_si, if_neg (by omega), q_gi_si, if_neg (by omega)], rfl, rfl, rfl, rfl, rfl⟩
      have hg : ∀ a, gc σ a = 7 → gc (fσ (si σ 210 mc (nI (K + 1))) mc (nI c) 7) a = 7 ∧ gi (fσ (si σ 210 mc (nI (K + 1))) mc (nI c) 7) 600 a = gi σ 600 a := fun a q => ⟨q, by unfold fσ; rw [q_gi_si, if_neg (by omega), q_gi_si, if_neg (by omega), q_gi_si, if_neg (by omega)]⟩
      refine ⟨fσ (si σ 210 mc (nI (K + 1))) mc (nI c) 7, uS (uS (uS (uS μ 822 (nI L')) 823 (nI (K + 1))) 820 7) 821 (nI c), 0, 0, Fr, F, Tn, Pn, 200, L', K + 1, ?_, mx_enter_deep μ _ m3 (by omega) m4 m2, ⟨h.lo (((LO.rf.si (by decide)).si (by decide)).si (by decide)) ((((LM.rf.uS (by omega)).uS (by omega)).uS (by omega)).uS (by omega)), hD, ⟨m1, ?_, ?_, ?_, ?_, ?_, ?_, ?_, by omega, m10, m11⟩, ?_, ?_, Or.inr (Or.inl ⟨⟨7, by omega, by omega, ?_, ?_, ?_, ?_⟩, fun _ => ⟨n, o, p, a1.mo (s _) ⟨rfl, rfl, rfl, fun _ _ => rfl⟩ (fun _ => rfl) (fun _ => rfl)⟩⟩)⟩, by omega, by omega, by omega, by omega, by omega, Or.inr ?_⟩
      · unfold ex_X1_open
        rw [if_pos h3, if_pos lt]
        simp only [m1, Option.bind_some]
        rw [if_pos fD1, fD2, if_neg (by decide), if_pos hN.1, hN.2.1, m5, nI_1, ce_fail (by rw [q_gc_si]; exact h3)]
        rfl
      · rw [q_mS_uS, if_neg (by omega), q_mS_uS, if_neg (by omega), q_mS_uS, if_neg (by omega), q_mS_uS, if_neg (by omega)]; exact m2
      · rw [q_mS_uS, if_neg (by omega), q_mS_uS, if_neg (by omega), q_mS_uS, if_neg (by omega), q_mS_uS, if_pos rfl]
      · rw [q_mS_uS, if_neg (by omega), q_mS_uS, if_neg (by omega), q_mS_uS, if_pos rfl]
      · unfold fσ
        rw [q_gi_si, if_neg (by omega), q_gi_si, if_neg (by omega), q_gi_si, if_pos ⟨rfl, rfl⟩]
      · unfold fσ
        rw [q_gi_si, if_neg (by omega), q_gi_si, if_neg (by omega), q_gi_si, if_neg (by omega), m6, show K + (L' + 1) = K + 1 + L' by omega]
      · rw [q_mS_uS, if_neg (by omega), q_mS_uS, if_neg (by omega), q_mS_uS, if_neg (by omega), q_mS_uS, if_neg (by omega)]; exact m7
      · unfold fσ
        rw [q_gi_si, if_neg (by omega), q_gi_si, if_neg (by omega), q_gi_si, if_neg (by omega)]; exact m8
      · intro j hj1 hj2
        obtain ⟨n, o, p, a1, a2, a3⟩ := hb j hj1 (by omega)
        exact ⟨n, o, p, a1.mo (s _) ⟨rfl, rfl, rfl, fun _ _ => rfl⟩ (fun _ => rfl) (fun _ => rfl), a2, a3.mo (s _) ⟨rfl, rfl, rfl, fun _ _ => rfl⟩ (Nat.le_refl _) hg⟩
      · rw [scq_eq (μ := μ) (ν := uS (uS (uS (uS μ 822 (nI L')) 823 (nI (K + 1))) 820 7) 821 (nI c)) (fun _ => rfl) 200 (fun _ _ _ => ⟨rfl, rfl⟩)]; omega
      · rw [q_mS_uS, if_neg (by omega), q_mS_uS, if_pos rfl]; rfl
      · unfold fσ
        rw [q_gi_si, if_neg (by omega), q_gi_si, if_neg (by omega), q_gi_si, if_neg (by omega)]; exact k2
      · unfold fσ
        rw [q_gi_si, if_pos ⟨rfl, rfl⟩]; rfl
      · unfold fσ
        rw [q_gi_si, if_neg (by omega), q_gi_si, if_pos ⟨rfl, rfl⟩, q_mS_uS, if_pos rfl]
      · rw [hP, ph_eq (μ := μ) (ν := uS (uS (uS (uS μ 822 (nI L')) 823 (nI (K + 1))) 820 7) 821 (nI c)) (fun _ => rfl) (fun _ _ _ => ⟨rfl, rfl⟩)]
        split <;> omega
    · have hD2 : D < 200 := by omega
      have l1 : LO σ (si σ 210 mc (nI (K + 1))) := LO.rf.si (by decide)
      have c1 := h.lo (ν := μ) l1 LM.rf
      obtain ⟨τ, Fr', F', w1, w2, w3, w4, w5, w6, w7, w8, w9, w10⟩ := ce_within (d := d) c1 hD hD2
      have fn := mc_fr w2 w3
      have hmc : gc τ mc = 3 := w2.1.2.1
      have ne0 : gc (si σ 210 mc (nI (K + 1))) mc ≠ 0 := by rw [q_gc_si, h3]; decide
      have lB : LO τ (bgσ (sp τ 204 mc (some (Fr' (D + 1)))) (Fr' (D + 1)) (some b)) := (LO.rf.sp (by decide)).tr bg_lo
      have apq : ∀ i, ap (bgσ (sp τ 204 mc (some (Fr' (D + 1)))) (Fr' (D + 1)) (some b)) es i = ap σ es i := fun i => (lB.2.2.2.1 es i).trans (w10 es i)
      have giq : ∀ g, g ≠ 104 → g ≠ 210 → gi (bgσ (sp τ 204 mc (some (Fr' (D + 1)))) (Fr' (D + 1)) (some b)) g mc = gi σ g mc := fun g hg hg2 => by
        rw [bg_gi _ _ _ hg, q_gi_sp, w7 g mc ne0, q_gi_si, if_neg (by omega)]
      have hg : ∀ a, gc σ a = 7 → gc (bgσ (sp τ 204 mc (some (Fr' (D + 1)))) (Fr' (D + 1)) (some b)) a = 7 ∧ gi (bgσ (sp τ 204 mc (some (Fr' (D + 1)))) (Fr' (D + 1)) (some b)) 600 a = gi σ 600 a := fun a q => by
        have q0 : gc (si σ 210 mc (nI (K + 1))) a ≠ 0 := by rw [q_gc_si, q]; decide
        exact ⟨by rw [lB.2.1, w6 a q0, q_gc_si]; exact q, by rw [bg_gi _ _ _ (by decide), q_gi_sp, w7 600 a q0, q_gi_si, if_neg (by omega)]⟩
      have s : ∀ j, j < D + 1 → FSm σ (bgσ (sp τ 204 mc (some (Fr' (D + 1)))) (Fr' (D + 1)) (some b)) (Fr j) := fun j hj => by
        have q0 : gc (si σ 210 mc (nI (K + 1))) (Fr j) ≠ 0 := by rw [q_gc_si, (mc_fr h (show j ≤ F by omega)).1]; decide
        have s1 : FSm σ τ (Fr j) := ⟨by rw [w9 _ _ q0 (by decide), q_gp_si], by rw [w7 _ _ q0, q_gi_si, if_neg (by omega)], by rw [w9 _ _ q0 (by decide), q_gp_si], by rw [w9 _ _ q0 (by decide), q_gp_si], by rw [w9 _ _ q0 (by decide), q_gp_si], by rw [w9 _ _ q0 (by decide), q_gp_si], by rw [w8 _ _ q0, q_gj_si]⟩
        have s2 : FSm τ (sp τ 204 mc (some (Fr' (D + 1)))) (Fr j) := ⟨by rw [q_gp_sp, if_neg (by omega)], by rw [q_gi_sp], by rw [q_gp_sp, if_neg (by omega)], by rw [q_gp_sp, if_neg (by omega)], by rw [q_gp_sp, if_neg (by omega)], by rw [q_gp_sp, if_neg (by omega)], by rw [q_gj_sp]⟩
        exact (s1.tr s2).tr (bg_ne (by rw [← w5 j (by omega)]; exact w2.2.2.1.inj (by omega) (by omega) (by omega)))
      obtain ⟨b1, b2', b3, b4', b5, b6, b7⟩ := bg_at (sp τ 204 mc (some (Fr' (D + 1)))) (Fr' (D + 1)) (some b)
      obtain ⟨-, -, o, ho, o1, o2, -⟩ := id hN
      have scν : sc (enμ μ D L' (K + 1) (nI c)) (D + 1) = sc μ D + 1 := by
        rw [sc, scq_eq (μ := μ) (fun i => by rw [en_I, if_neg (by omega), if_neg (by omega), if_neg (by omega), if_neg (by omega), if_neg (by omega)]) D (fun j q1 q2 => ⟨(en_u q1 (by omega)).1, (en_u q1 (by omega)).2.1⟩), cr_1 (by rw [en_I, if_neg (by omega), if_neg (by omega), if_neg (by omega), if_pos ⟨rfl, rfl⟩]; decide)]
      refine ⟨bgσ (sp τ 204 mc (some (Fr' (D + 1)))) (Fr' (D + 1)) (some b), enμ μ D L' (K + 1) (nI c), F' - F, 10 * (F' - F), Fr', F', Tn, Pn, D + 1, L', K + 1, ?_, mx_enter_ok μ _ m3 (by omega) m4 m2 hD2, ⟨w2.lo lB (en_lm ..), w3, ⟨?_, ?_, ?_, ?_, ?_, ?_, ?_, ?_, by omega, ?_, ?_⟩, hb.mo (fun j hj => w5 j (by omega)) (fun j _ hj => s j hj) (fun j h1 hj => en_u h1 hj) apq (fun i => by rw [en_I, if_neg (by omega), if_neg (by omega), if_neg (by omega), if_neg (by omega), if_neg (by omega)]) (Nat.le_refl _) hg, by omega, Or.inr (Or.inr ⟨⟨?_, ?_, ?_, ?_⟩, by omega, fun _ => ⟨c, o, 0, ⟨hc, ?_, by rw [b1, apq]; exact hcb.symm, ho, ?_, by omega, ?_, Or.inl ⟨rfl, b2'⟩⟩, Or.inl ⟨rfl, fun _ i hi => ?_⟩⟩⟩)⟩, w4, by omega, by omega, by omega, by omega, Or.inr ?_⟩
      · unfold ex_X1_open
        rw [if_pos h3, if_pos lt]
        simp only [m1, Option.bind_some]
        rw [if_pos fD1, fD2, if_pos (by rw [show (200 : Int32) = nI 200 from rfl, nI_ltI (by omega) (by omega)]; exact hD2), m5, nI_1, w1]
        simp only [b4_some]
        rw [if_pos hmc, q_gp_sp, if_pos ⟨rfl, rfl⟩]
        simp only [Option.bind_some]
        rw [if_pos fn.1, ce_begin (by rw [q_gc_sp]; exact fn.1)]
        simp only [b2_some, Nat.zero_add]
      · rw [bg_204, q_gp_sp, if_pos ⟨rfl, rfl⟩]
      · rw [en_S, if_pos rfl]
      · rw [en_S, if_neg (by omega), if_neg (by omega), if_pos rfl]
      · rw [en_S, if_neg (by omega), if_pos rfl]
      · rw [bg_gi _ _ _ (by decide), q_gi_sp, w7 210 mc ne0, q_gi_si, if_pos ⟨rfl, rfl⟩]
      · rw [giq 208 (by decide) (by decide), m6, show K + (L' + 1) = K + 1 + L' by omega]
      · rw [en_S, if_neg (by omega), if_neg (by omega), if_neg (by omega)]; exact m7
      · rw [giq 207 (by decide) (by decide)]; exact m8
      · rw [en_S, if_neg (by omega), if_neg (by omega), if_neg (by omega)]; exact m10
      · rw [en_S, if_neg (by omega), if_neg (by omega), if_neg (by omega)]; exact m11
      · rw [en_S, if_neg (by omega), if_neg (by omega), if_neg (by omega)]; exact k1
      · rw [giq 209 (by decide) (by decide)]; exact k2
      · rw [giq 211 (by decide) (by decide)]; exact k3
      · rw [giq 212 (by decide) (by decide)]; exact k4
      · rw [en_I, if_neg (by omega), if_neg (by omega), if_neg (by omega), if_neg (by omega), if_pos ⟨rfl, rfl⟩]
      · rw [en_I, if_neg (by omega), if_neg (by omega), if_neg (by omega), if_neg (by omega), if_neg (by omega)]; exact o2
      · rw [en_I, if_neg (by omega), if_neg (by omega), if_neg (by omega), if_pos ⟨rfl, rfl⟩]; rfl
      · rcases (show i = 0 ∨ i = 1 ∨ i = 2 by omega) with rfl | rfl | rfl
        · rw [b3, en_I, if_neg (by omega), if_neg (by omega), if_pos (by omega)]; exact pr.nl
        · rw [b4', en_I, if_neg (by omega), if_pos (by omega)]; exact pr.nl
        · rw [b5, en_I, if_pos (by omega)]; exact pr.nl
      · rw [hP]
        unfold ph
        rw [scν]
        split <;> omega
/-- 'workPart' and 'begin': the reference has set its phase -/
theorem L_begin (h : CR d σ μ x pg mc mk sa ls es Fr F N Tn Pn) (hD : D ≤ F) (h1 : 1 ≤ D) (hm : MN σ μ mc Fr D L K S0) (hb : BL σ μ N es Tn Fr D) (ht : Tn + sc μ D ≤ S0 + K) (hk : OK σ μ mc) {n o p wh : Nat} (hn : n < N) (a2 : mI μ 10 D = nI n) (a3 : gp σ 103 (Fr D) = ap σ es n) (a4 : o ≤ 20) (a5 : mI μ 1 n = nI o) (a6 : p ≤ 3) (a7 : mI μ 11 D = nI p) (hp : 1 ≤ p) (hw : Wk (si σ 104 (Fr D) (nI wh)) μ (Fr D) D o p) (hv : FW σ μ Tn (Fr D) D o) (hwh : wh < 3) (hnm : nmd o wh = true) : PC d x pg mc mk sa ls es F N Tn Pn S0 (ph μ D L) (ex_X1_workPart d σ mc (some (Fr D)) (nI wh)) (mx_X7_begin μ (nI n) (nI wh)) := by
  obtain ⟨m1, m2, m3, m4, m5, m6, m7, m8, m9, m10, m11⟩ := id hm
  obtain ⟨k1, k2, k3, k4⟩ := id hk
  have h3 : gc σ mc = 3 := h.1.2.1
  have h6 : gc σ pg = 6 := h.1.2.2.1
  have h20 : gp σ 200 mc = some pg := h.1.2.2.2.2.2.2.2.2.2.1
  obtain ⟨fD1, fD2⟩ := mc_fr h hD
  have hN512 := h.2.2.2.1.1
  have hP : ph μ D L = 4 * L + D + sc μ D + 1 := by unfold ph; rw [if_pos k1]
  obtain ⟨b, hb1, hb2, -⟩ := ce_at_yes h hn
  obtain ⟨c5, c4, o', ho', c1, c2, -, cp⟩ := id hb2
  have eo : o' = o := (nI_eq (by omega) (by omega)).mp (c2.symm.trans a5)
  subst eo
  have o0 : o' ≠ 0 := fun e => by
    subst e
    rcases (show wh = 0 ∨ wh = 1 ∨ wh = 2 by omega) with rfl | rfl | rfl <;> exact absurd hnm (by decide)
  obtain ⟨p0, p1, p2, pw⟩ := cp o0
  have hl1 : LO σ (si σ 104 (Fr D) (nI wh)) := LO.rf.si (by decide)
  have cr1 := h.lo (ν := μ) hl1 LM.rf
  have hnu : mx_X7_number μ (nI n) (nI wh) = some (mI μ 2 (3 * n + wh), μ) := mx_number_ev μ (by omega) hwh
  have hge : ex_X3_get d (si σ 104 (Fr D) (nI wh)) b (nI wh) = some (mI μ 2 (3 * n + wh), si σ 104 (Fr D) (nI wh)) := by
    rw [ce_get (by rw [q_gc_si]; exact c5) hwh]
    have : gi (si σ 104 (Fr D) (nI wh)) (403 + wh) b = mI μ 2 (3 * n + wh) := by
      rw [q_gi_si, if_neg (by omega)]
      rcases (show wh = 0 ∨ wh = 1 ∨ wh = 2 by omega) with rfl | rfl | rfl
      · exact p0
      · exact p1
      · exact p2
    rw [this]
  have s1 : ∀ j, j ≠ D → j ≤ F → FSm σ (si σ 104 (Fr D) (nI wh)) (Fr j) := fun j hj hjF => ⟨rfl, by rw [q_gi_si, if_neg (fun q => h.2.2.1.inj hjF hD hj q.2)], rfl, rfl, rfl, rfl, rfl⟩
  have hg1 : ∀ a, gc σ a = 7 → gc (si σ 104 (Fr D) (nI wh)) a = 7 ∧ gi (si σ 104 (Fr D) (nI wh)) 600 a = gi σ 600 a := fun a q => ⟨q, by rw [q_gi_si, if_neg (by omega)]⟩
  have hb1' : BL (si σ 104 (Fr D) (nI wh)) μ N es Tn Fr (D + 1) := fun j hj1 hj2 => by
    by_cases e : j = D
    · subst e
      exact ⟨n, o', p, ⟨hn, a2, a3, a4, a5, a6, a7, hw⟩, hp, fun e i hi => by
        have := hv e i hi
        exact this.mo (Nat.le_refl _) hg1⟩
    · obtain ⟨n, o, p, z1, z2, z3⟩ := hb j hj1 (by omega)
      exact ⟨n, o, p, z1.mo (s1 j e (by omega)) USm.rf (fun _ => rfl) (fun _ => rfl), z2, z3.mo (s1 j e (by omega)) USm.rf (Nat.le_refl _) hg1⟩
  have hm1 : MN (si σ 104 (Fr D) (nI wh)) μ mc Fr D L K S0 := ⟨m1, m2, m3, m4, by rw [q_gi_si, if_neg (by omega)]; exact m5, by rw [q_gi_si, if_neg (by omega)]; exact m6, m7, by rw [q_gi_si, if_neg (by omega)]; exact m8, m9, m10, m11⟩
  have hk1 : OK (si σ 104 (Fr D) (nI wh)) μ mc := ⟨k1, by rw [q_gi_si, if_neg (by omega)]; exact k2, by rw [q_gi_si, if_neg (by omega)]; exact k3, by rw [q_gi_si, if_neg (by omega)]; exact k4⟩
  have pre : ∀ (X : Option (Option Nat × Sg)) (Y : Option (Unit × Sg × Nat × Nat)), ex_X4_at d (si σ 104 (Fr D) (nI wh)) pg (mI μ 2 (3 * n + wh)) = X → (b2 X fun r16 s15 => (if r16 = none then (if gc s15 (Fr D) = 2 then (Option.bind (gp s15 103 (Fr D)) fun a25 => (if gc s15 a25 = 5 then (if gc s15 mc = 3 then (b2 (ex_X1_failAt d s15 mc (gi s15 400 a25) (1 : Int32)) fun r31 s30 => some ((), s30, 0, 0)) else none) else none)) else none) else (if gc s15 mc = 3 then (b4 (ex_X1_open d s15 mc r16) fun r21 s20 k22 n23 => some ((), s20, 0 + k22, 0 + n23)) else none))) = Y → ex_X1_workPart d σ mc (some (Fr D)) (nI wh) = Y := fun X Y q1 q2 => by
    unfold ex_X1_workPart
    simp only [Option.bind_some]
    rw [if_pos fD1, if_pos h3, a3, hb1]
    simp only [Option.bind_some]
    rw [if_pos c5, hge]
    simp only [b2_some, h20, Option.bind_some]
    rw [if_pos (by rw [q_gc_si]; exact h6), q1]
    exact q2
  rcases pw wh hwh hnm with e | ⟨j, hj, e⟩
  · have g1 : ∀ g, g ≠ 104 → g ≠ 211 → g ≠ 212 → gi (fσ (si σ 104 (Fr D) (nI wh)) mc (nI n) 1) g mc = gi σ g mc := fun g y1 y2 y3 => by
      unfold fσ
      rw [q_gi_si, if_neg (by omega), q_gi_si, if_neg (by omega), q_gi_si, if_neg (by omega)]
    have s2 : ∀ j, FSm (si σ 104 (Fr D) (nI wh)) (fσ (si σ 104 (Fr D) (nI wh)) mc (nI n) 1) j := fun j => ⟨rfl, by unfold fσ; rw [q_gi_si, if_neg (by omega), q_gi_si, if_neg (by omega)], rfl, rfl, rfl, rfl, rfl⟩
    have hg2 : ∀ a, gc (si σ 104 (Fr D) (nI wh)) a = 7 → gc (fσ (si σ 104 (Fr D) (nI wh)) mc (nI n) 1) a = 7 ∧ gi (fσ (si σ 104 (Fr D) (nI wh)) mc (nI n) 1) 600 a = gi (si σ 104 (Fr D) (nI wh)) 600 a := fun a q => ⟨q, by unfold fσ; rw [q_gi_si, if_neg (by omega), q_gi_si, if_neg (by omega)]⟩
    have hbE : BL (fσ (si σ 104 (Fr D) (nI wh)) mc (nI n) 1) (fμ μ (nI n) 1) N es Tn Fr (D + 1) := hb1'.mo (fun _ _ => rfl) (fun j _ _ => s2 _) (fun j _ _ => ⟨rfl, rfl, rfl, fun _ _ => rfl⟩) (fun _ => rfl) (fun _ => rfl) (Nat.le_refl _) hg2
    obtain ⟨n', o2, p2', z1, z2, z3⟩ := hbE D h1 (by omega)
    refine ⟨fσ (si σ 104 (Fr D) (nI wh)) mc (nI n) 1, fμ μ (nI n) 1, 0, 0, Fr, F, Tn, Pn, D, L, K, pre _ _ (ce_at_no cr1 (by rw [e]; exact Or.inl (by decide))) ?_, ?_, ⟨h.lo ((hl1.si (by decide)).si (by decide)) ((LM.rf.uS (by omega)).uS (by omega)), hD, ⟨m1, m2, m3, m4, by rw [g1 _ (by decide) (by decide) (by decide)]; exact m5, by rw [g1 _ (by decide) (by decide) (by decide)]; exact m6, m7, by rw [g1 _ (by decide) (by decide) (by decide)]; exact m8, m9, m10, m11⟩, fun j q1 q2 => hbE j q1 (by omega), ?_, Or.inr (Or.inl ⟨⟨1, by omega, by omega, rfl, by rw [g1 _ (by decide) (by decide) (by decide)]; exact k2, (fσ_at ..).1, (fσ_at ..).2⟩, fun _ => ⟨n', o2, p2', z1⟩⟩)⟩, by omega, by omega, by omega, by omega, by omega, Or.inr ?_⟩
    · simp only [b2_some]
      rw [if_pos trivial, if_pos (by rw [q_gc_si]; exact fD1), q_gp_si, a3, hb1]
      simp only [Option.bind_some]
      rw [if_pos (by rw [q_gc_si]; exact c5), if_pos (by rw [q_gc_si]; exact h3), ce_fail (by rw [q_gc_si]; exact h3), q_gi_si, if_neg (by omega), c4]
      rfl
    · unfold mx_X7_begin
      rw [hnu, e]
      simp only [b2_some]
      rw [if_pos trivial]
      rfl
    · rw [scq_eq (μ := μ) (ν := fμ μ (nI n) 1) (fun _ => rfl) D (fun _ _ _ => ⟨rfl, rfl⟩)]; exact ht
    · rw [hP, ph_eq (μ := μ) (ν := fμ μ (nI n) 1) (fun _ => rfl) (fun _ _ _ => ⟨rfl, rfl⟩), show mS (fμ μ (nI n) 1) 820 = 1 from rfl, if_neg (by decide)]
      omega
  · obtain ⟨bj, y1, y2, y3⟩ := ce_at_yes cr1 hj
    obtain ⟨τ, ν, k, n', Fr', F', Tm, Pm, D', L', K', z1, z2, z3⟩ := L_open cr1 hD hm1 hb1' ht hk1 hj y1 y2
    refine ⟨τ, ν, k, n', Fr', F', Tm, Pm, D', L', K', pre (some (some bj, si σ 104 (Fr D) (nI wh))) (some ((), τ, k, n')) (by rw [e]; exact y3) ?_, ?_, z3⟩
    · simp only [b2_some]
      rw [if_neg (by simp), if_pos (by rw [q_gc_si]; exact h3), z1]
      simp only [b4_some, Nat.zero_add]
    · unfold mx_X7_begin
      rw [hnu, e]
      simp only [b2_some]
      rw [if_neg (nI_ne (by omega)), hnu, e]
      simp only [b2_some]
      rw [z2]
      rfl
end OPEN
