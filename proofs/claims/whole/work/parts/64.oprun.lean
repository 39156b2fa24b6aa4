section OPRUN
variable {d : Dp} {σ τ : Sg} {μ ν : Mu} {x pg mc mk sa ls es : Nat} {Fr Fr' : Nat → Nat} {F N Tn Tm Pn Pm D E f j n o p L K S0 S P P' : Nat}
/-- the class at a run's beginning -/
def bn1 (σ : Sg) (mc : Nat) (A : Int32) : Sg := si (si (si (si (si σ 208 mc A) 210 mc 0) 209 mc 0) 211 mc 0) 212 mc (-1)
def bnσ (σ : Sg) (mc f0 : Nat) (A : Int32) : Sg := sp (bgσ (sp (bn1 σ mc A) 206 mc none) f0 none) 204 mc (some f0)
theorem bn1_lo {A : Int32} : LO σ (bn1 σ mc A) := ((((LO.rf.si (by decide)).si (by decide)).si (by decide)).si (by decide)).si (by decide)
theorem bn1_gi (σ : Sg) (mc : Nat) (A : Int32) (g : Nat) : gi (bn1 σ mc A) g mc = if g = 212 then -1 else if g = 211 then 0 else if g = 209 then 0 else if g = 210 then 0 else if g = 208 then A else gi σ g mc := by
  unfold bn1
  rw [q_gi_si, q_gi_si, q_gi_si, q_gi_si, q_gi_si]
  simp only [and_true]
theorem bn_gi (σ : Sg) (mc f0 : Nat) (A : Int32) {g : Nat} (h : g ≠ 104) : gi (bnσ σ mc f0 A) g mc = if g = 212 then -1 else if g = 211 then 0 else if g = 209 then 0 else if g = 210 then 0 else if g = 208 then A else gi σ g mc := by
  unfold bnσ
  rw [q_gi_sp, bg_gi _ _ _ h, q_gi_sp, bn1_gi]
theorem bn_108 (σ : Sg) (mc f0 : Nat) (A : Int32) : gp (bnσ σ mc f0 A) 108 f0 = none := by
  unfold bnσ
  rw [q_gp_sp, if_neg (by omega)]
  exact (bg_at _ _ _).2.2.2.2.2.1
theorem bn_204 (σ : Sg) (mc f0 : Nat) (A : Int32) : gp (bnσ σ mc f0 A) 204 mc = some f0 := by
  unfold bnσ
  rw [q_gp_sp, if_pos ⟨rfl, rfl⟩]
theorem bn_cr (h : CR d σ μ x pg mc mk sa ls es Fr F N Tn Pn) (A : Int32) : CR d (bnσ σ mc (Fr 0) A) (uS μ 825 (-1)) x pg mc mk sa ls es Fr F N Tn Pn :=
  ((h.lo (ν := μ) bn1_lo LM.rf).given (q := none) pr.nl).lo (bg_lo.tr (LO.rf.sp (by decide))) LM.rf
theorem minI {S s : Nat} (hS : S ≤ 50000) (hs : s ≤ 10000) : (if ((50000 : Int32) - nI S) < nI s then ((50000 : Int32) - nI S) else nI s) = nI (min s (50000 - S)) ∧ (if ((50000 : Int32) - nI S) ≤ nI s then ((50000 : Int32) - nI S) else nI s) = nI (min s (50000 - S)) := by
  rw [show (50000 : Int32) = nI 50000 from rfl, pk_sub hS]
  constructor
  · by_cases e : 50000 - S < s
    · rw [if_pos ((nI_ltI (by omega) (by omega)).mpr e), Nat.min_eq_right (by omega)]
    · rw [if_neg (fun q => e ((nI_ltI (by omega) (by omega)).mp q)), Nat.min_eq_left (by omega)]
  · by_cases e : 50000 - S ≤ s
    · rw [if_pos ((nI_leI (by omega) (by omega)).mpr e), Nat.min_eq_right (by omega)]
    · rw [if_neg (fun q => e ((nI_leI (by omega) (by omega)).mp q)), Nat.min_eq_left (by omega)]
theorem ce_rbegin (h : CR d σ μ x pg mc mk sa ls es Fr F N Tn Pn) (hS : gi σ 207 mc = nI S) (h5 : S ≤ 50000) {s : Nat} (hs : s ≤ 10000) (q : Option Nat) : ex_X1_begin d σ mc q (nI s) = if q = none then some ((), fσ (bnσ σ mc (Fr 0) (nI (min s (50000 - S)))) mc (-1) 1, 0, 0) else ex_X1_open d (bnσ σ mc (Fr 0) (nI (min s (50000 - S)))) mc q := by
  have h3 : gc σ mc = 3 := h.1.2.1
  have h203 : gp σ 203 mc = some (Fr 0) := h.1.2.2.2.2.2.2.2.2.2.2.2.2.1
  have hf0 := (mc_fr h (show 0 ≤ F by omega)).1
  have h3' : gc (bnσ σ mc (Fr 0) (nI (min s (50000 - S)))) mc = 3 := (bn_cr h _).1.2.1
  have e203 : gp (bgσ (sp (bn1 σ mc (nI (min s (50000 - S)))) 206 mc none) (Fr 0) none) 203 mc = some (Fr 0) := by
    rw [bg_gp, if_neg (by omega), if_neg (by omega), if_neg (by omega), if_neg (by omega), if_neg (by omega), q_gp_sp, if_neg (by omega), bn1_lo.2.2.2.2.2.2 203 mc rfl]
    exact h203
  unfold ex_X1_begin ex_X1_clearFault
  rw [if_pos h3, hS, (minI h5 hs).1, if_pos (by rw [q_gc_si, q_gc_si, q_gc_si]; exact h3)]
  simp only [b2_some]
  rw [show si (si (si (si (si σ 208 mc (nI (min s (50000 - S)))) 210 mc 0) 209 mc 0) 211 mc 0) 212 mc (-1) = bn1 σ mc (nI (min s (50000 - S))) from rfl, if_pos (by rw [bn1_lo.2.1]; exact h3), bn1_lo.2.2.2.2.2.2 203 mc rfl, h203]
  simp only [Option.bind_some]
  rw [if_pos (by rw [bn1_lo.2.1]; exact hf0), ce_begin (by rw [q_gc_sp, bn1_lo.2.1]; exact hf0)]
  simp only [b2_some]
  rw [if_pos (by rw [bg_lo.2.1, q_gc_sp, bn1_lo.2.1]; exact h3), e203, b4_u, show sp (bgσ (sp (bn1 σ mc (nI (min s (50000 - S)))) 206 mc none) (Fr 0) none) 204 mc (some (Fr 0)) = bnσ σ mc (Fr 0) (nI (min s (50000 - S))) from rfl, ce_fail h3']
  rfl
theorem fσ_gc (σ : Sg) (mc : Nat) (n k : Int32) (a : Nat) : gc (fσ σ mc n k) a = gc σ a := rfl
theorem fσ_gp (σ : Sg) (mc : Nat) (n k : Int32) (g a : Nat) : gp (fσ σ mc n k) g a = gp σ g a := rfl
theorem fσ_gi (σ : Sg) (mc : Nat) (n k : Int32) {g a : Nat} (h1 : g ≠ 211) (h2 : g ≠ 212) : gi (fσ σ mc n k) g a = gi σ g a := by
  unfold fσ
  rw [q_gi_si, if_neg (by omega), q_gi_si, if_neg (by omega)]
/-- the reference at a run's beginning -/
def bμ1 (μ : Mu) : Mu := uS (uS (uS (uS μ 825 (-1)) 826 0) 827 (-1)) 823 0
def bμ2 (μ : Mu) (L : Int32) : Mu := uS (uS (uS (uS (bμ1 μ) 822 L) 820 0) 819 (-1)) 818 0
theorem bμ1_S (μ : Mu) (f : Nat) : mS (bμ1 μ) f = if f = 823 then 0 else if f = 827 then -1 else if f = 826 then 0 else if f = 825 then -1 else mS μ f := by
  unfold bμ1
  rw [q_mS_uS, q_mS_uS, q_mS_uS, q_mS_uS]
theorem bμ2_S (μ : Mu) (L : Int32) (f : Nat) : mS (bμ2 μ L) f = if f = 818 then 0 else if f = 819 then -1 else if f = 820 then 0 else if f = 822 then L else mS (bμ1 μ) f := by
  unfold bμ2
  rw [q_mS_uS, q_mS_uS, q_mS_uS, q_mS_uS]
theorem op_run (I : ID d σ μ x pg mc mk sa ls es Fr F N Tn Pn) (p1 p2 : Int32) : RO d x pg mc mk sa ls es F N Tn Pn 0 0 (ex_X6_run d σ x p1 p2) (mx_X7_run μ p1 p2) := by
  obtain ⟨hC, i1, i2, i3, S, i4, i5, i6, i7⟩ := id I
  have h3 : gc σ mc = 3 := hC.1.2.1
  have h8 : gc σ x = 8 := hC.1.1
  have h6 : gc σ pg = 6 := hC.1.2.2.1
  have h700 : gp σ 700 x = some pg := hC.1.2.2.2.2.2.2.2.1
  have h701 : gp σ 701 x = some mc := hC.1.2.2.2.2.2.2.2.2.1
  have hN5 := hC.2.2.2.1.1
  have e804 : mS μ 804 = nI N := hC.2.2.2.1.2.1
  have same : ∀ r, ex_X6_run d σ x p1 p2 = some (r, σ, 0, 0) → mx_X7_run μ p1 p2 = some (r, μ) → RO d x pg mc mk sa ls es F N Tn Pn 0 0 (ex_X6_run d σ x p1 p2) (mx_X7_run μ p1 p2) := fun r q1 q2 => ⟨r, σ, μ, 0, 0, Fr, F, Tn, Pn, q1, q2, I, by omega, by omega, by omega, by omega, by omega⟩
  by_cases l0 : p2 < 0
  · exact same (-2) (by unfold ex_X6_run; rw [if_pos l0]) (by unfold mx_X7_run; rw [if_pos l0])
  · by_cases l1 : p2 ≤ 10000
    · obtain ⟨s, hs31, rfl⟩ := nI_of l0
      have hs : s ≤ 10000 := by rw [show (10000 : Int32) = nI 10000 from rfl, nI_leI hs31 (by omega)] at l1; exact l1
      have rb := fun q => ce_rbegin (q := q) hC i4 i6 hs
      have mm := (minI i6 hs).2
      have hL1 : min s (50000 - S) ≤ 10000 := by omega
      have hL2 : S + min s (50000 - S) ≤ 50000 := by omega
      generalize min s (50000 - S) = L at rb mm hL1 hL2
      have c0 := bn_cr hC (nI L)
      have g204 := bn_204 σ mc (Fr 0) (nI L)
      have g108 := bn_108 σ mc (Fr 0) (nI L)
      have g207 : gi (bnσ σ mc (Fr 0) (nI L)) 207 mc = nI S := by rw [bn_gi _ _ _ _ (by decide), if_neg (by decide), if_neg (by decide), if_neg (by decide), if_neg (by decide), if_neg (by decide)]; exact i4
      have g208 : gi (bnσ σ mc (Fr 0) (nI L)) 208 mc = nI L := by rw [bn_gi _ _ _ _ (by decide), if_neg (by decide), if_neg (by decide), if_neg (by decide), if_neg (by decide), if_pos rfl]
      have g209 : gi (bnσ σ mc (Fr 0) (nI L)) 209 mc = 0 := by rw [bn_gi _ _ _ _ (by decide), if_neg (by decide), if_neg (by decide), if_pos rfl]
      have g210 : gi (bnσ σ mc (Fr 0) (nI L)) 210 mc = nI 0 := by rw [bn_gi _ _ _ _ (by decide), if_neg (by decide), if_neg (by decide), if_neg (by decide), if_pos rfl]; rfl
      have g211 : gi (bnσ σ mc (Fr 0) (nI L)) 211 mc = 0 := by rw [bn_gi _ _ _ _ (by decide), if_neg (by decide), if_pos rfl]
      have g212 : gi (bnσ σ mc (Fr 0) (nI L)) 212 mc = -1 := by rw [bn_gi _ _ _ _ (by decide), if_pos rfl]
      have gap : ∀ i, ap (bnσ σ mc (Fr 0) (nI L)) es i = ap σ es i := fun i => by
        have l : LO (sp (bn1 σ mc (nI L)) 206 mc none) (bnσ σ mc (Fr 0) (nI L)) := bg_lo.tr (LO.rf.sp (by decide))
        rw [l.2.2.2.1, q_ap_sp, (bn1_lo (σ := σ)).2.2.2.1]
      generalize bnσ σ mc (Fr 0) (nI L) = σ0 at rb c0 g204 g108 g207 g208 g209 g210 g211 g212 gap
      have h8' : gc σ0 x = 8 := c0.1.1
      have h701' : gp σ0 701 x = some mc := c0.1.2.2.2.2.2.2.2.2.1
      have h3' : gc σ0 mc = 3 := c0.1.2.1
      have f0' := mc_fr c0 (show 0 ≤ F by omega)
      by_cases nd : p1 < 0 ∨ nI N ≤ p1
      · -- no such NODE
        have hw : ex_X1_isAtWork d (fσ σ0 mc (-1) 1) mc = some (0, fσ σ0 mc (-1) 1) := by
          unfold ex_X1_isAtWork
          rw [if_pos (by rw [fσ_gc]; exact h3'), fσ_gp, g204]
          simp only [Option.bind_some]
          rw [if_pos (by rw [fσ_gc]; exact f0'.1), fσ_gi _ _ _ _ (by decide) (by decide), f0'.2, if_pos (by decide)]
        have he : ex_X1_end d (fσ σ0 mc (-1) 1) mc = some (2, si (fσ σ0 mc (-1) 1) 207 mc (nI S)) := by
          unfold ex_X1_end
          rw [if_pos (by rw [fσ_gc]; exact h3'), fσ_gi _ _ _ _ (by decide) (by decide), g209, if_pos rfl, (fσ_at ..).1, if_neg (by decide), fσ_gi _ _ _ _ (by decide) (by decide), fσ_gi _ _ _ _ (by decide) (by decide), g207, g210, nI_add, Nat.add_zero]
          rfl
        have hA : ex_X6_run d σ x p1 (nI s) = some (2, si (fσ σ0 mc (-1) 1) 207 mc (nI S), 0, 0) := by
          unfold ex_X6_run
          rw [if_neg l0, if_pos l1, if_pos h8, h700]
          simp only [Option.bind_some]
          rw [if_pos h6, ce_at_no hC nd]
          simp only [b2_some, h701, Option.bind_some]
          rw [if_pos h3, rb, if_pos rfl]
          simp only [b4_some]
          rw [show (1000010 : Nat) = 1000009 + 1 from rfl, lp_X6_run, if_neg (by decide), if_pos (by rw [fσ_gc]; exact h8'), fσ_gp, h701']
          simp only [Option.bind_some]
          rw [if_pos (by rw [fσ_gc]; exact h3'), hw]
          simp only [b2_some]
          rw [if_pos trivial, if_pos (by rw [fσ_gc]; exact h8'), fσ_gp, h701']
          simp only [Option.bind_some]
          rw [if_pos (by rw [fσ_gc]; exact h3'), he]
          rfl
        have hB : mx_X7_run μ p1 (nI s) = some (2, uS (bμ1 μ) 826 1) := by
          unfold mx_X7_run
          rw [if_neg l0, if_pos l1, bm_eq, bm_eq, bm_eq, bm_eq, show uS (uS (uS (uS μ 825 (-1)) 826 0) 827 (-1)) 823 0 = bμ1 μ from rfl]
          by_cases q0 : p1 < 0
          · rw [if_pos q0, bm_eq]
          · have q1 : nI N ≤ p1 := by rcases nd with q | q; exact absurd q q0; exact q
            rw [if_neg q0, show mS (bμ1 μ) 804 = nI N from e804, if_neg (fun q => by
              obtain ⟨i, hi, rfl⟩ := nI_of q0
              rw [nI_ltI hi (by omega)] at q
              rw [nI_leI (by omega) hi] at q1
              omega), bm_eq]
        have c1 : CR d (si (fσ σ0 mc (-1) 1) 207 mc (nI S)) (uS (bμ1 μ) 826 1) x pg mc mk sa ls es Fr F N Tn Pn := (c0.lo (ν := uS μ 825 (-1)) (((LO.rf.si (by decide)).si (by decide)).si (by decide)) LM.rf).mu (fun _ _ => rfl) (fun _ _ => rfl) (fun f hf => by
          rw [q_mS_uS, if_neg (by omega), bμ1_S, if_neg (by omega), if_neg (by omega), if_neg (by omega), q_mS_uS])
        refine ⟨2, _, _, 0, 0, Fr, F, Tn, Pn, hA, hB, ⟨c1, ?_, ?_, ?_, S, ?_, ?_, i6, i7⟩, by omega, by omega, by omega, by omega, by omega⟩
        · rw [q_gi_si, if_neg (by omega), (fσ_at ..).1, q_mS_uS, if_pos rfl]
        · rw [q_gi_si, if_neg (by omega), (fσ_at ..).2, q_mS_uS, if_neg (by omega), bμ1_S, if_neg (by decide), if_pos rfl]
        · rw [q_gi_si, if_neg (by omega), fσ_gi _ _ _ _ (by decide) (by decide), g210, q_mS_uS, if_neg (by omega), bμ1_S, if_pos rfl]
          rfl
        · rw [q_gi_si, if_pos ⟨rfl, rfl⟩]
        · rw [q_mS_uS, if_neg (by omega), bμ1_S, if_neg (by decide), if_neg (by decide), if_neg (by decide), if_neg (by decide)]; exact i5
      · have n0 : ¬ p1 < 0 := fun q => nd (Or.inl q)
        obtain ⟨i, hi31, rfl⟩ := nI_of n0
        have hi : i < N := by
          have q : ¬ nI N ≤ nI i := fun q => nd (Or.inr q)
          rw [nI_leI (by omega) hi31] at q
          omega
        obtain ⟨b, y1, y2, y3⟩ := ce_at_yes hC hi
        -- the reference ahead of 'enter'
        have hB : mx_X7_run μ (nI i) (nI s) = b2 (mx_X7_enter (bμ2 μ (nI L)) (nI i)) fun _ m => lq_X7_run 1000010 m (nI i) (nI s) := by
          unfold mx_X7_run
          rw [if_neg l0, if_pos l1, bm_eq, bm_eq, bm_eq, bm_eq, if_neg n0, show uS (uS (uS (uS μ 825 (-1)) 826 0) 827 (-1)) 823 0 = bμ1 μ from rfl, show mS (bμ1 μ) 804 = nI N from e804, if_pos ((nI_ltI hi31 (by omega)).mpr hi), show mS (bμ1 μ) 824 = nI S from i5]
          by_cases q : ((50000 : Int32) - nI S) ≤ nI s
          · rw [if_pos q] at mm ⊢
            rw [mm, bm_eq, bm_eq, bm_eq, bm_eq]
            rfl
          · rw [if_neg q] at mm ⊢
            rw [mm, bm_eq, bm_eq, bm_eq, bm_eq]
            rfl
        have cμ : CR d σ0 (bμ2 μ (nI L)) x pg mc mk sa ls es Fr F N Tn Pn := c0.mu (fun _ _ => rfl) (fun _ _ => rfl) (fun f hf => by
          rw [bμ2_S, if_neg (by omega), if_neg (by omega), if_neg (by omega), if_neg (by omega), bμ1_S, if_neg (by omega), if_neg (by omega), if_neg (by omega), q_mS_uS])
        have hmn : MN σ0 (bμ2 μ (nI L)) mc Fr 0 L 0 S := by
          refine ⟨g204, ?_, ?_, ?_, g210, by rw [Nat.zero_add]; exact g208, ?_, g207, by omega, ?_, ?_⟩
          · rw [bμ2_S, if_pos rfl]; rfl
          · rw [bμ2_S, if_neg (by decide), if_neg (by decide), if_neg (by decide), if_pos rfl]
          · rw [bμ2_S, if_neg (by decide), if_neg (by decide), if_neg (by decide), if_neg (by decide), bμ1_S, if_pos rfl]; rfl
          · rw [bμ2_S, if_neg (by decide), if_neg (by decide), if_neg (by decide), if_neg (by decide), bμ1_S, if_neg (by decide), if_neg (by decide), if_neg (by decide), if_neg (by decide)]; exact i5
          · rw [bμ2_S, if_neg (by decide), if_neg (by decide), if_neg (by decide), if_neg (by decide), bμ1_S, if_neg (by decide), if_neg (by decide), if_pos rfl]
          · rw [bμ2_S, if_neg (by decide), if_neg (by decide), if_neg (by decide), if_neg (by decide), bμ1_S, if_neg (by decide), if_pos rfl]
        have hok : OK σ0 (bμ2 μ (nI L)) mc := ⟨by rw [bμ2_S, if_neg (by decide), if_neg (by decide), if_pos rfl], g209, g211, g212⟩
        obtain ⟨b', z1, z2, -⟩ := ce_at_yes cμ hi
        have eb : b' = b := by
          rw [gap, y1] at z1
          exact (Option.some.inj z1).symm
        subst eb
        obtain ⟨τ, ν, k, n, Fr', F', Tm, Pm, D', L', K', r1, r2, r3, r4, r5, r6, r7, r8, r9⟩ := L_open cμ (show 0 ≤ F by omega) hmn (fun j q1 q2 => by omega) (by rw [sc]; omega) hok hi z1 z2
        have hph : ph (bμ2 μ (nI L)) 0 L ≤ 40001 := by
          unfold ph
          rw [sc]
          split <;> omega
        obtain ⟨r, τ', ν', k', n', Fr'', F'', Tm', Pm', u1, u2, u3, u4, u5, u6, u7, u8⟩ := run_loop (d := d) (x := x) (pg := pg) (mc := mc) (mk := mk) (sa := sa) (ls := ls) (es := es) (N := N) (S0 := S) (nI i) (nI s) 40001 τ ν Fr' F' Tm Pm D' L' K' 1000010 1000010 0 (0 + k) (0 + n) r3 (by rcases r9 with q | q; exact Or.inl q; exact Or.inr (by omega)) (by omega) (by omega) (by omega)
        refine ⟨r, τ', ν', k + k', n + n', Fr'', F'', Tm', Pm', ?_, ?_, u3, by omega, by omega, by omega, by omega, by omega⟩
        · unfold ex_X6_run
          rw [if_neg l0, if_pos l1, if_pos h8, h700]
          simp only [Option.bind_some]
          rw [if_pos h6, y3]
          simp only [b2_some, h701, Option.bind_some]
          rw [if_pos h3, rb, if_neg (by simp), r1]
          simp only [b4_some]
          rw [show (0 : Int32) = nI 0 from rfl, u1, Nat.add_assoc, Nat.add_assoc]
        · rw [hB, r2]
          exact u2
    · exact same (-2) (by unfold ex_X6_run; rw [if_neg l0, if_neg l1]) (by unfold mx_X7_run; rw [if_neg l0, if_neg l1])
end OPRUN
