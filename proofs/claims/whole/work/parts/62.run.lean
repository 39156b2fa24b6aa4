section RUN
variable {d : Dp} {σ τ : Sg} {μ ν : Mu} {x pg mc mk sa ls es : Nat} {Fr Fr' : Nat → Nat} {F N Tn Tm Pn Pm D E f j n o p L K S0 P P' : Nat}
theorem CR.mu (h : CR d σ μ x pg mc mk sa ls es Fr F N Tn Pn) (hI : ∀ k i, mI ν k i = mI μ k i) (hJ : ∀ k i, mJ ν k i = mJ μ k i) (hS : ∀ f, f = 804 ∨ f = 809 ∨ f = 811 ∨ f = 813 ∨ f = 825 → mS ν f = mS μ f) : CR d σ ν x pg mc mk sa ls es Fr F N Tn Pn :=
  h.ag (AgO.rf h.2.1) (LO.rf.t) (LO.rf.s) ⟨hS _ (by omega), fun i => ⟨hI _ _, hI _ _, hI _ _, hJ _ _⟩⟩ ⟨hS _ (by omega), hS _ (by omega), fun i => ⟨hI _ _, hI _ _, hI _ _, hI _ _, hJ _ _⟩⟩ ⟨fun i => hI _ _, hS _ (by omega), hS _ (by omega)⟩
/-- between two calls -/
def ID (d : Dp) (σ : Sg) (μ : Mu) (x pg mc mk sa ls es : Nat) (Fr : Nat → Nat) (F N Tn Pn : Nat) : Prop := CR d σ μ x pg mc mk sa ls es Fr F N Tn Pn ∧ gi σ 211 mc = mS μ 826 ∧ gi σ 212 mc = mS μ 827 ∧ gi σ 210 mc = mS μ 823 ∧ ∃ S, gi σ 207 mc = nI S ∧ mS μ 824 = nI S ∧ S ≤ 50000 ∧ Tn ≤ S
/-- how the reference ends a run -/
def En (μ : Mu) : Option (Int32 × Mu) := (bm (uS μ 824 ((mS μ 824) + (mS μ 823))) fun m98 => (if (0 : Int32) ≤ (mS m98 820) then (if (mS m98 820) ≤ (0 : Int32) then (bm (uS m98 825 (mS m98 819)) fun m103 => some ((0 : Int32), m103)) else (bm (uS m98 826 (mS m98 820)) fun m105 => (bm (uS m105 827 (mS m105 821)) fun m108 => some ((1 : Int32) + (mS m108 820), m108)))) else some ((-1 : Int32), m98)))
theorem run_end (R : RS d σ μ x pg mc mk sa ls es Fr F N Tn Pn D L K S0) (h : D = 0 ∨ mS μ 820 = -1) : ∃ r τ ν, ex_X1_end d σ mc = some (r, τ) ∧ En μ = some (r, ν) ∧ ID d τ ν x pg mc mk sa ls es Fr F N Tn Pn := by
  obtain ⟨hC, hDF, hm, hb, ht, st⟩ := R
  obtain ⟨m1, m2, m3, m4, m5, m6, m7, m8, m9, m10, m11⟩ := id hm
  have h3 : gc σ mc = 3 := hC.1.2.1
  have h203 : gp σ 203 mc = some (Fr 0) := hC.1.2.2.2.2.2.2.2.2.2.2.2.2.1
  have hf0 := (mc_fr hC (show 0 ≤ F by omega)).1
  have e7 : gi σ 207 mc + gi σ 210 mc = nI (S0 + K) := by rw [m8, m5, nI_add]
  have e24 : mS μ 824 + mS μ 823 = nI (S0 + K) := by rw [m7, m4, nI_add]
  have c1 : CR d (si σ 207 mc (nI (S0 + K))) (uS μ 824 (nI (S0 + K))) x pg mc mk sa ls es Fr F N Tn Pn := (hC.lo (ν := μ) (LO.rf.si (by decide)) LM.rf).mu (fun _ _ => rfl) (fun _ _ => rfl) (fun f hf => by rw [q_mS_uS, if_neg (by omega)])
  have gi1 : ∀ g, g ≠ 207 → gi (si σ 207 mc (nI (S0 + K))) g mc = gi σ g mc := fun g hg => by rw [q_gi_si, if_neg (by omega)]
  have gi7 : gi (si σ 207 mc (nI (S0 + K))) 207 mc = nI (S0 + K) := by rw [q_gi_si, if_pos ⟨rfl, rfl⟩]
  have mS1 : ∀ f, f ≠ 824 → mS (uS μ 824 (nI (S0 + K))) f = mS μ f := fun f hf => by rw [q_mS_uS, if_neg hf]
  have mS4 : mS (uS μ 824 (nI (S0 + K))) 824 = nI (S0 + K) := by rw [q_mS_uS, if_pos rfl]
  rcases st with ⟨s1, s2, s3, s4⟩ | ⟨⟨e, s1, s2, s3, s4, s5, s6⟩, -⟩ | ⟨⟨s1, s2, s3, s4⟩, s5, -⟩
  · refine ⟨-1, si σ 207 mc (nI (S0 + K)), uS μ 824 (nI (S0 + K)), ?_, ?_, c1, by rw [gi1 _ (by decide), s3, mS1 _ (by decide), m10], by rw [gi1 _ (by decide), s4, mS1 _ (by decide), m11], by rw [gi1 _ (by decide), m5, mS1 _ (by decide), m4], S0 + K, gi7, mS4, by omega, by omega⟩
    · unfold ex_X1_end
      rw [if_pos h3, if_neg (by rw [s2]; decide), e7]
    · unfold En
      rw [e24, bm_eq, mS1 820 (by decide), s1, if_neg (by decide)]
  · have ne0 : ¬ nI e = 0 := nI_ne0 (by omega) (by omega)
    have c2 : CR d (si σ 207 mc (nI (S0 + K))) (uS (uS (uS μ 824 (nI (S0 + K))) 826 (nI e)) 827 (mS μ 821)) x pg mc mk sa ls es Fr F N Tn Pn := c1.mu (fun _ _ => rfl) (fun _ _ => rfl) (fun f hf => by rw [q_mS_uS, if_neg (by omega), q_mS_uS, if_neg (by omega)])
    refine ⟨1 + nI e, si σ 207 mc (nI (S0 + K)), uS (uS (uS μ 824 (nI (S0 + K))) 826 (nI e)) 827 (mS μ 821), ?_, ?_, c2, ?_, ?_, ?_, S0 + K, gi7, ?_, by omega, by omega⟩
    · unfold ex_X1_end
      rw [if_pos h3, if_pos s4, if_neg (by rw [s5]; exact ne0), e7, s5]
    · unfold En
      rw [e24, bm_eq, mS1 820 (by decide), s3, if_pos (by rw [show (0 : Int32) = nI 0 from rfl, nI_leI (by omega) (by omega)]; omega), if_neg (fun q => by rw [show (0 : Int32) = nI 0 from rfl, nI_leI (by omega) (by omega)] at q; omega), bm_eq, bm_eq, show mS (uS (uS μ 824 (nI (S0 + K))) 826 (nI e)) 821 = mS μ 821 from rfl]
      show some (1 + mS μ 820, _) = _
      rw [s3]
    · rw [gi1 _ (by decide), s5, q_mS_uS, if_neg (by omega), q_mS_uS, if_pos rfl]
    · rw [gi1 _ (by decide), s6, q_mS_uS, if_pos rfl]
    · rw [gi1 _ (by decide), m5, q_mS_uS, if_neg (by omega), q_mS_uS, if_neg (by omega), mS1 _ (by decide), m4]
    · rw [q_mS_uS, if_neg (by omega), q_mS_uS, if_neg (by omega), mS4]
  · have hD : D = 0 := by
      rcases h with h | h
      · exact h
      · rw [s1] at h; exact absurd h (by decide)
    have p0 := s5 hD
    have p1 : pr (si σ 207 mc (nI (S0 + K))) Tn (gp σ 108 (Fr 0)) (mS μ 819) := p0.mo (Nat.le_refl _) (fun a q => ⟨q, by rw [q_gi_si, if_neg (by omega)]⟩)
    have c2 := c1.given p1
    refine ⟨0, sp (si σ 207 mc (nI (S0 + K))) 206 mc (gp σ 108 (Fr 0)), uS (uS μ 824 (nI (S0 + K))) 825 (mS μ 819), ?_, ?_, c2, ?_, ?_, ?_, S0 + K, by rw [q_gi_sp]; exact gi7, by rw [q_mS_uS, if_neg (by omega)]; exact mS4, by omega, by omega⟩
    · unfold ex_X1_end
      rw [if_pos h3, if_pos s2, if_pos s3, h203]
      simp only [Option.bind_some]
      rw [if_pos hf0, e7]
    · unfold En
      rw [e24, bm_eq, mS1 820 (by decide), s1, if_pos (by decide), if_pos (by decide), bm_eq, mS1 819 (by decide)]
    · rw [q_gi_sp, gi1 _ (by decide), s3, q_mS_uS, if_neg (by omega), mS1 _ (by decide), m10]
    · rw [q_gi_sp, gi1 _ (by decide), s4, q_mS_uS, if_neg (by omega), mS1 _ (by decide), m11]
    · rw [q_gi_sp, gi1 _ (by decide), m5, q_mS_uS, if_neg (by omega), mS1 _ (by decide), m4]
/-- what a run comes to -/
def RO (d : Dp) (x pg mc mk sa ls es : Nat) (F N Tn Pn kc nc : Nat) (A : Option (Int32 × Sg × Nat × Nat)) (B : Option (Int32 × Mu)) : Prop := ∃ r τ ν k n Fr' F' Tm Pm, A = some (r, τ, kc + k, nc + n) ∧ B = some (r, ν) ∧ ID d τ ν x pg mc mk sa ls es Fr' F' N Tm Pm ∧ F ≤ F' ∧ Tn ≤ Tm ∧ Pn ≤ Pm ∧ k ≤ 2 * (Tm - Tn) + (F' - F) ∧ n ≤ 7 * (Tm - Tn) + (Pm - Pn) + 10 * (F' - F)
theorem loop_end (R : RS d σ μ x pg mc mk sa ls es Fr F N Tn Pn D L K S0) (h : D = 0 ∨ mS μ 820 = -1) (v1 v2 : Int32) (g h' t kc nc : Nat) (hg : 0 < g) (hh : 0 < h') (ht : t < 1000000) : RO d x pg mc mk sa ls es F N Tn Pn kc nc (lp_X6_run g d σ x v1 v2 (nI t) kc nc) (lq_X7_run h' μ v1 v2) := by
  obtain ⟨r, τ, ν, e1, e2, e3⟩ := run_end R h
  obtain ⟨hC, hDF, hm, hb, -, st⟩ := R
  have h3 : gc σ mc = 3 := hC.1.2.1
  have h8 : gc σ x = 8 := hC.1.1
  have h701 : gp σ 701 x = some mc := hC.1.2.2.2.2.2.2.2.2.1
  have hf := mc_fr hC hDF
  have f200 := hC.2.2.1.1
  obtain ⟨g, rfl⟩ : ∃ y, g = y + 1 := ⟨g - 1, by omega⟩
  obtain ⟨h', rfl⟩ : ∃ y, h' = y + 1 := ⟨h' - 1, by omega⟩
  have hw : ex_X1_isAtWork d σ mc = some (0, σ) := by
    unfold ex_X1_isAtWork
    rw [if_pos h3, hm.1]
    simp only [Option.bind_some]
    rw [if_pos hf.1, hf.2]
    by_cases q : nI D ≤ 0
    · rw [if_pos q]
    · rw [if_neg q]
      have s : gi σ 209 mc = 1 := by
        rcases h with h | h
        · subst h; exact absurd (by decide) q
        · rcases st with z | z | z
          · exact z.2.1
          · obtain ⟨⟨e, z1, z2, z3, -⟩, -⟩ := z
            rw [z3] at h
            exact absurd h (nI_ne (by omega))
          · rw [z.1.1] at h; exact absurd h (by decide)
      rw [s, if_neg (by decide)]
  refine ⟨r, τ, ν, 0, 0, Fr, F, Tn, Pn, ?_, ?_, e3, by omega, by omega, by omega, by omega, by omega⟩
  · rw [lp_X6_run, if_neg (fun q => by rw [show (1000000 : Int32) = nI 1000000 from rfl, nI_leI (by omega) (by omega)] at q; omega), if_pos h8, h701]
    simp only [Option.bind_some]
    rw [if_pos h3, hw]
    simp only [b2_some]
    rw [if_pos trivial, if_pos h8, h701]
    simp only [Option.bind_some]
    rw [if_pos h3, e1]
    rfl
  · rw [lq_X7_run]
    by_cases q : mS μ 818 ≤ 0
    · rw [if_pos q]; exact e2
    · rw [if_neg q]
      have s : mS μ 820 = -1 := by
        rcases h with h | h
        · subst h; rw [hm.2.1] at q; exact absurd (by decide) q
        · exact h
      rw [if_pos (show mS μ 820 < 0 by rw [s]; decide)]
      exact e2
theorem run_loop (v1 v2 : Int32) : ∀ (P : Nat) (σ : Sg) (μ : Mu) (Fr : Nat → Nat) (F Tn Pn D L K g h' t kc nc : Nat), RS d σ μ x pg mc mk sa ls es Fr F N Tn Pn D L K S0 → (mS μ 820 = -1 ∨ ph μ D L ≤ P) → P < g → P < h' → t + P < 1000000 → RO d x pg mc mk sa ls es F N Tn Pn kc nc (lp_X6_run g d σ x v1 v2 (nI t) kc nc) (lq_X7_run h' μ v1 v2) := by
  intro P
  induction P with
  | zero =>
    intro σ μ Fr F Tn Pn D L K g h' t kc nc R hs hg hh ht
    refine loop_end R ?_ v1 v2 g h' t kc nc hg hh (by omega)
    rcases hs with q | q
    · exact Or.inr q
    · unfold ph at q; left; omega
  | succ P ih =>
    intro σ μ Fr F Tn Pn D L K g h' t kc nc R hs hg hh ht
    by_cases hsp : D = 0 ∨ mS μ 820 = -1
    · exact loop_end R hsp v1 v2 g h' t kc nc (by omega) (by omega) (by omega)
    · have hD : D ≠ 0 := fun q => hsp (Or.inl q)
      have hn1 : mS μ 820 ≠ -1 := fun q => hsp (Or.inr q)
      obtain ⟨D, rfl⟩ : ∃ y, D = y + 1 := ⟨D - 1, by omega⟩
      obtain ⟨hC, hDF, hm, hb, htc, st⟩ := id R
      have h3 : gc σ mc = 3 := hC.1.2.1
      have h8 : gc σ x = 8 := hC.1.1
      have h701 : gp σ 701 x = some mc := hC.1.2.2.2.2.2.2.2.2.1
      have hf := mc_fr hC hDF
      have f200 := hC.2.2.1.1
      have dcl : (nI (D + 1)).toNatClampNeg = D + 1 := nI_clamp (by omega)
      have dbd : ¬ (nI (D + 1) < 0 ∨ 201 ≤ (nI (D + 1)).toNatClampNeg) := nI_bd (by omega) (by omega)
      have nD0 : ¬ nI (D + 1) ≤ 0 := fun q => by rw [show (0 : Int32) = nI 0 from rfl, nI_leI (by omega) (by omega)] at q; omega
      have e18 := hm.2.1
      obtain ⟨g, rfl⟩ : ∃ y, g = y + 1 := ⟨g - 1, by omega⟩
      obtain ⟨h', rfl⟩ : ∃ y, h' = y + 1 := ⟨h' - 1, by omega⟩
      have hph : ph μ (D + 1) L ≤ P + 1 := by rcases hs with q | q; exact absurd q hn1; exact q
      have key : ∀ (B : Option (Unit × Mu)), gi σ 209 mc = 0 → PC d x pg mc mk sa ls es F N Tn Pn S0 (ph μ (D + 1) L) (ex_X1_takeTurn d σ mc) B → lq_X7_run (h' + 1) μ v1 v2 = (b2 B fun _ m => lq_X7_run h' m v1 v2) → RO d x pg mc mk sa ls es F N Tn Pn kc nc (lp_X6_run (g + 1) d σ x v1 v2 (nI t) kc nc) (lq_X7_run (h' + 1) μ v1 v2) := fun B h9 hpc hB => by
        obtain ⟨τ, ν, k, n, Fr', F', Tm, Pm, D', L', K', r1, r2, r3, r4, r5, r6, r7, r8, r9⟩ := hpc
        have hw : ex_X1_isAtWork d σ mc = some (1, σ) := by
          unfold ex_X1_isAtWork
          rw [if_pos h3, hm.1]
          simp only [Option.bind_some]
          rw [if_pos hf.1, hf.2, if_neg nD0, if_pos h9]
        obtain ⟨r, τ', ν', k', n', Fr'', F'', Tm', Pm', z1, z2, z3, z4, z5, z6, z7, z8⟩ := ih τ ν Fr' F' Tm Pm D' L' K' g h' (t + 1) (kc + k) (nc + n) r3 (by rcases r9 with q | q; exact Or.inl q; exact Or.inr (by omega)) (by omega) (by omega) (by omega)
        refine ⟨r, τ', ν', k + k', n + n', Fr'', F'', Tm', Pm', ?_, ?_, z3, by omega, by omega, by omega, by omega, by omega⟩
        · rw [lp_X6_run, if_neg (fun q => by rw [show (1000000 : Int32) = nI 1000000 from rfl, nI_leI (by omega) (by omega)] at q; omega), if_pos h8, h701]
          simp only [Option.bind_some]
          rw [if_pos h3, hw]
          simp only [b2_some]
          rw [if_neg (by decide), if_pos h8, h701]
          simp only [Option.bind_some]
          rw [if_pos h3, r1]
          simp only [b4_some]
          rw [nI_1, z1, Nat.add_assoc, Nat.add_assoc]
        · rw [hB, r2]
          exact z2
      rcases st with ⟨s1, -⟩ | ⟨⟨e, s1, s2, s3, s4, s5, s6⟩, s7⟩ | ⟨⟨s1, s2, s3, s4⟩, -, s5⟩
      · exact absurd s1 hn1
      · obtain ⟨n, o, p, a⟩ := s7 (by omega)
        have a2 := a.2.1
        refine key (mx_X7_outward μ (nI n)) s4 (turn_fault hC hDF hm hb htc ⟨s1, s2, s3, s4, s5, s6⟩ a) ?_
        rw [lq_X7_run, e18, if_neg nD0, s3, if_neg (nI_nl (by omega)), if_neg (fun q => by rw [show (0 : Int32) = nI 0 from rfl, nI_leI (by omega) (by omega)] at q; omega), if_pos dbd, dcl, a2]
      · obtain ⟨n, o, p, a, hst⟩ := s5 (by omega)
        have a2 := a.2.1
        refine key (mx_X7_forward μ (nI n)) s2 (turn_ok ⟨hC, hDF, by omega, hm, hb, ⟨s1, s2, s3, s4⟩⟩ htc a hst) ?_
        rw [lq_X7_run, e18, if_neg nD0, s1, if_neg (by decide), if_pos (by decide), if_pos dbd, dcl, a2]
end RUN
