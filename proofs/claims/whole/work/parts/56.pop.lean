section POP
variable {d : Dp} {σ τ : Sg} {μ ν : Mu} {x pg mc mk sa ls es : Nat} {Fr Fr' : Nat → Nat} {F N Tn Tm Pn D E f j n o p L K S0 : Nat}
theorem ce_receive (h : gc σ f = 2) (q : Option Nat) : ∃ g, (g = 105 ∨ g = 106 ∨ g = 107) ∧ (gi σ 104 f = 0 → g = 105) ∧ (gi σ 104 f = 1 → g = 106) ∧ (gi σ 104 f ≠ 0 → gi σ 104 f ≠ 1 → g = 107) ∧ ex_X0_receive d σ f q = some ((), sp (sp σ 108 f q) g f q) := by
  unfold ex_X0_receive
  rw [if_pos h]
  by_cases e0 : gi σ 104 f = 0
  · exact ⟨105, by omega, fun _ => rfl, fun e => absurd (e0.symm.trans e) (by decide), fun e => absurd e0 e, by rw [if_pos e0]⟩
  · by_cases e1 : gi σ 104 f = 1
    · exact ⟨106, by omega, fun e => absurd e e0, fun _ => rfl, fun _ e => absurd e1 e, by rw [if_neg e0, if_pos e1]⟩
    · exact ⟨107, by omega, fun e => absurd e e0, fun e => absurd e e1, fun _ _ => rfl, by rw [if_neg e0, if_neg e1]⟩
/-- inside a turn -/
def GM (d : Dp) (σ : Sg) (μ : Mu) (x pg mc mk sa ls es : Nat) (Fr : Nat → Nat) (F N Tn Pn D L K S0 : Nat) : Prop := CR d σ μ x pg mc mk sa ls es Fr F N Tn Pn ∧ D ≤ F ∧ 1 ≤ D ∧ MN σ μ mc Fr D L K S0 ∧ BL σ μ N es Tn Fr D ∧ OK σ μ mc
theorem MN.up (h : MN σ μ mc Fr D L K S0) (t : gp τ 204 mc = gp σ 204 mc) (g : ∀ g, g = 207 ∨ g = 208 ∨ g = 210 → gi τ g mc = gi σ g mc) (m : ∀ f, f = 818 ∨ f = 822 ∨ f = 823 ∨ f = 824 ∨ f = 826 ∨ f = 827 → mS ν f = mS μ f) : MN τ ν mc Fr D L K S0 := by
  obtain ⟨m1, m2, m3, m4, m5, m6, m7, m8, m9, m10, m11⟩ := h
  exact ⟨t.trans m1, (m 818 (by omega)).trans m2, (m 822 (by omega)).trans m3, (m 823 (by omega)).trans m4, (g 210 (by omega)).trans m5, (g 208 (by omega)).trans m6, (m 824 (by omega)).trans m7, (g 207 (by omega)).trans m8, m9, (m 826 (by omega)).trans m10, (m 827 (by omega)).trans m11⟩
theorem OK.up (h : OK σ μ mc) (g : ∀ g, g = 209 ∨ g = 211 ∨ g = 212 → gi τ g mc = gi σ g mc) (m : mS ν 820 = mS μ 820) : OK τ ν mc := ⟨m.trans h.1, (g 209 (by omega)).trans h.2.1, (g 211 (by omega)).trans h.2.2.1, (g 212 (by omega)).trans h.2.2.2⟩
theorem LO.hg (h : LO σ τ) : ∀ a, gc σ a = 7 → gc τ a = 7 ∧ gi τ 600 a = gi σ 600 a := fun a q => ⟨by rw [h.2.1]; exact q, h.2.2.2.2.1 600 a rfl⟩
theorem LM.op (h : LM μ ν) : ∀ i, mI ν 1 i = mI μ 1 i := fun i => h.1 1 i (by decide) (by decide) (by decide)
theorem GM.up (h : GM d σ μ x pg mc mk sa ls es Fr F N Tn Pn D L K S0) (l : LO σ τ) (m : LM μ ν) (s : ∀ j, 1 ≤ j → j < D → FSm σ τ (Fr j)) (u : ∀ j, 1 ≤ j → j < D → USm μ ν j) (t : gp τ 204 mc = gp σ 204 mc) (g : ∀ g, 207 ≤ g → gi τ g mc = gi σ g mc) (k : ∀ f, f = 818 ∨ f = 820 ∨ f = 822 ∨ f = 823 → mS ν f = mS μ f) : GM d τ ν x pg mc mk sa ls es Fr F N Tn Pn D L K S0 := by
  obtain ⟨h1, h2, h3, h4, h5, h6⟩ := h
  exact ⟨h1.lo l m, h2, h3, h4.up t (fun f hf => g f (by omega)) (fun f hf => by
    by_cases e : f = 824 ∨ f = 826 ∨ f = 827
    · exact m.2.2 f (by omega)
    · exact k f (by omega)), h5.mo (fun _ _ => rfl) s u (l.2.2.2.1 es) m.op (Nat.le_refl _) l.hg, h6.up (fun f hf => g f (by omega)) (k 820 (by omega))⟩
theorem L_pop (h : GM d σ μ x pg mc mk sa ls es Fr F N Tn Pn (D + 1) L K S0) (ht : Tn + sc μ D ≤ S0 + K) {q : Option Nat} {r : Int32} (hp : pr σ Tn q r) (hI : ∀ k i, mI ν k i = mI μ k i) (hJ : ∀ k i, mJ ν k i = mJ μ k i) (hS : ∀ f, mS ν f = if f = 818 then nI D else if f = 819 then r else mS μ f) : ∃ τ, ex_X1_close d σ mc (some (Fr (D + 1))) q = some ((), τ) ∧ RS d τ ν x pg mc mk sa ls es Fr F N Tn Pn D L K S0 ∧ ph ν D L = 4 * L + D + sc μ D + 1 := by
  obtain ⟨hC, hD, -, hm, hb, hk⟩ := h
  obtain ⟨k1, k2, k3, k4⟩ := id hk
  have h3 : gc σ mc = 3 := hC.1.2.1
  have f1 := mc_fr hC hD
  have f0 := mc_fr hC (show D ≤ F by omega)
  have hout : gp σ 100 (Fr (D + 1)) = some (Fr D) := hC.2.2.1.2.2 D (by omega)
  obtain ⟨g, g1, g2, g3, g4, ge⟩ := ce_receive (d := d) (σ := sp σ 204 mc (some (Fr D))) (f := Fr D) (by rw [q_gc_sp]; exact f0.1) q
  rw [q_gi_sp] at g2 g3 g4
  have lo : LO σ (sp (sp (sp σ 204 mc (some (Fr D))) 108 (Fr D) q) g (Fr D) q) := ((LO.rf.sp (by decide)).sp (by decide)).sp (by rcases g1 with rfl | rfl | rfl <;> rfl)
  have lm : LM μ ν := ⟨fun k i _ _ _ => hI k i, fun k i _ => hJ k i, fun f hf => by rw [hS, if_neg (by omega), if_neg (by omega)]⟩
  have us : ∀ j, USm μ ν j := fun j => ⟨hI _ _, hI _ _, hJ _ _, fun _ _ => hI _ _⟩
  have e108 : gp (sp (sp (sp σ 204 mc (some (Fr D))) 108 (Fr D) q) g (Fr D) q) 108 (Fr D) = q := by
    rw [q_gp_sp, if_neg (by omega), q_gp_sp, if_pos ⟨rfl, rfl⟩]
  have eg' : gp (sp (sp (sp σ 204 mc (some (Fr D))) 108 (Fr D) q) g (Fr D) q) g (Fr D) = q := by rw [q_gp_sp, if_pos ⟨rfl, rfl⟩]
  have eo : ∀ z, z ≠ g → z ≠ 108 → z ≠ 204 → gp (sp (sp (sp σ 204 mc (some (Fr D))) 108 (Fr D) q) g (Fr D) q) z (Fr D) = gp σ z (Fr D) := fun z z1 z2 z3 => by
    rw [q_gp_sp, if_neg (by omega), q_gp_sp, if_neg (by omega), q_gp_sp, if_neg (by omega)]
  have gis : ∀ z a, gi (sp (sp (sp σ 204 mc (some (Fr D))) 108 (Fr D) q) g (Fr D) q) z a = gi σ z a := fun z a => by rw [q_gi_sp, q_gi_sp, q_gi_sp]
  have gjs : ∀ z a, gj (sp (sp (sp σ 204 mc (some (Fr D))) 108 (Fr D) q) g (Fr D) q) z a = gj σ z a := fun z a => by rw [q_gj_sp, q_gj_sp, q_gj_sp]
  have sn : ∀ j, j ≠ D → j ≤ F → FSm σ (sp (sp (sp σ 204 mc (some (Fr D))) 108 (Fr D) q) g (Fr D) q) (Fr j) := fun j hj hF => by
    have hne := hC.2.2.1.inj hF (show D ≤ F by omega) hj
    have e : ∀ z, z ≠ 204 → gp (sp (sp (sp σ 204 mc (some (Fr D))) 108 (Fr D) q) g (Fr D) q) z (Fr j) = gp σ z (Fr j) := fun z hz => by
      rw [q_gp_sp, if_neg (fun y => hne y.2), q_gp_sp, if_neg (fun y => hne y.2), q_gp_sp, if_neg (by omega)]
    exact ⟨e _ (by decide), gis _ _, e _ (by decide), e _ (by decide), e _ (by decide), e _ (by decide), gjs _ _⟩
  have e19 : mS ν 819 = r := by rw [hS, if_neg (by decide), if_pos rfl]
  have e20 : mS ν 820 = 0 := by rw [hS, if_neg (by decide), if_neg (by decide)]; exact k1
  have scq : sc ν D = sc μ D := scq_eq (fun i => hI 1 i) D (fun j _ _ => ⟨hI _ _, hI _ _⟩)
  refine ⟨sp (sp (sp σ 204 mc (some (Fr D))) 108 (Fr D) q) g (Fr D) q, ?_, ⟨hC.lo lo lm, by omega, ?_, ?_, by rw [scq]; exact ht, Or.inr (Or.inr ⟨⟨e20, by rw [gis]; exact k2, by rw [gis]; exact k3, by rw [gis]; exact k4⟩, fun e => ?_, fun e => ?_⟩)⟩, ?_⟩
  · unfold ex_X1_close
    rw [if_pos h3, if_pos k3]
    simp only [Option.bind_some]
    rw [if_pos f1.1, hout, q_gp_sp, if_pos ⟨rfl, rfl⟩]
    simp only [Option.bind_some]
    rw [if_pos f0.1, ge]
    rfl
  · obtain ⟨m1, m2, m3, m4, m5, m6, m7, m8, m9, m10, m11⟩ := hm
    refine ⟨?_, by rw [hS, if_pos rfl], by rw [hS, if_neg (by decide), if_neg (by decide)]; exact m3, by rw [hS, if_neg (by decide), if_neg (by decide)]; exact m4, by rw [gis]; exact m5, by rw [gis]; exact m6, by rw [hS, if_neg (by decide), if_neg (by decide)]; exact m7, by rw [gis]; exact m8, m9, by rw [hS, if_neg (by decide), if_neg (by decide)]; exact m10, by rw [hS, if_neg (by decide), if_neg (by decide)]; exact m11⟩
    rw [q_gp_sp, if_neg (by omega), q_gp_sp, if_neg (by omega), q_gp_sp, if_pos ⟨rfl, rfl⟩]
  · intro j j1 j2
    obtain ⟨n, o, p, a1, a2, a3⟩ := hb j j1 (by omega)
    exact ⟨n, o, p, a1.mo (sn j (by omega) (by omega)) (us j) (lo.2.2.2.1 es) (fun i => hI 1 i), a2, a3.mo (sn j (by omega) (by omega)) (us j) (Nat.le_refl _) lo.hg⟩
  · subst e
    rw [e108, e19]
    exact hp.mo (Nat.le_refl _) lo.hg
  · obtain ⟨n, o, p, ⟨a1, a2, a3, a4, a5, a6, a7, a8⟩, b1, b2⟩ := hb D e (by omega)
    have hp' := hp.mo (Nat.le_refl Tn) lo.hg
    refine ⟨n, o, p, ⟨a1, by rw [hI]; exact a2, by rw [eo _ (by omega) (by decide) (by decide), lo.2.2.2.1]; exact a3, a4, by rw [hI]; exact a5, a6, by rw [hI]; exact a7, a8.mo (gis _ _) (gjs _ _) (hJ _ _)⟩, Or.inr ⟨b1, by rw [e108, e19]; exact hp', fun ep => ?_, fun ee => ⟨?_, fun i hi hne => ?_⟩⟩⟩
    · have : g = 105 := by
        apply g2
        rcases a8 with k | k | k | k | k
        · omega
        · rcases k.2 with k | k
          · exact k.2
          · omega
        · rcases k.2 with k | k
          · exact k.2
          · omega
        · rcases k.2 with k | k
          · exact k.2
          · omega
        · rw [k.2.2.1, ep]; rfl
      subst this
      rw [eg', e19]
      exact hp'
    · have hg : g = 104 + p := by
        rcases a8 with k | k | k | k | k
        · omega
        · exact absurd k.1 ee.1
        · exact absurd k.1 ee.2.1
        · exact absurd k.1 ee.2.2
        · have k4 := k.2.2.1
          rcases (show p = 1 ∨ p = 2 ∨ p = 3 by omega) with rfl | rfl | rfl
          · exact g2 k4
          · exact g3 k4
          · exact g4 (by rw [k4]; decide) (by rw [k4]; decide)
      rw [← hg, eg', e19]
      exact hp'
    · have hg : g ≠ 105 + i := by
        rcases a8 with k | k | k | k | k
        · omega
        · exact absurd k.1 ee.1
        · exact absurd k.1 ee.2.1
        · exact absurd k.1 ee.2.2
        · have k4 := k.2.2.1
          have hg : g = 104 + p := by
            rcases (show p = 1 ∨ p = 2 ∨ p = 3 by omega) with rfl | rfl | rfl
            · exact g2 k4
            · exact g3 k4
            · exact g4 (by rw [k4]; decide) (by rw [k4]; decide)
          omega
      rw [eo _ (by omega) (by omega) (by omega), hI]
      exact (b2 ee i hi).mo (Nat.le_refl _) lo.hg
  · unfold ph
    rw [scq, if_pos e20]
end POP
