def eg (o : Nat) : Prop := o ≠ 15 ∧ o ≠ 19 ∧ o ≠ 20
/-- a frame's working PART beside the reference's phase -/
def Wk (σ : Sg) (μ : Mu) (f j o p : Nat) : Prop := (p = 0 ∧ gi σ 104 f = -1) ∨
  (o = 15 ∧ ((p = 1 ∧ gi σ 104 f = 0) ∨ (p = 2 ∧ gi σ 104 f = 2))) ∨
  (o = 19 ∧ ((p = 1 ∧ gi σ 104 f = 0) ∨ (p = 2 ∧ (gi σ 104 f = 1 ∨ gi σ 104 f = 2)))) ∨
  (o = 20 ∧ ((p = 1 ∧ gi σ 104 f = 0) ∨ (p = 2 ∧ gi σ 104 f = 1 ∧ gj σ 109 f = mJ μ 13 j - 1 ∧ 0 < mJ μ 13 j))) ∨
  (eg o ∧ 1 ≤ p ∧ gi σ 104 f = nI (p - 1) ∧ nmd o (p - 1) = true)
def FA (σ : Sg) (μ : Mu) (N es f j n o p : Nat) : Prop := n < N ∧ mI μ 10 j = nI n ∧ gp σ 103 f = ap σ es n ∧ o ≤ 20 ∧ mI μ 1 n = nI o ∧ p ≤ 3 ∧ mI μ 11 j = nI p ∧ Wk σ μ f j o p
/-- what the PARTS gave so far -/
def FW (σ : Sg) (μ : Mu) (Tn f j o : Nat) : Prop := eg o → ∀ i, i < 3 → pr σ Tn (gp σ (105 + i) f) (mI μ 12 (3 * j - 3 + i))
/-- and with the latest, which the reference has not put away yet -/
def FP (σ : Sg) (μ : Mu) (Tn f j o p : Nat) : Prop := pr σ Tn (gp σ 108 f) (mS μ 819) ∧ (p = 1 → pr σ Tn (gp σ 105 f) (mS μ 819)) ∧ (eg o → pr σ Tn (gp σ (104 + p) f) (mS μ 819) ∧ ∀ i, i < 3 → i + 1 ≠ p → pr σ Tn (gp σ (105 + i) f) (mI μ 12 (3 * j - 3 + i)))
/-- the frames that wait -/
def BL (σ : Sg) (μ : Mu) (N es Tn : Nat) (Fr : Nat → Nat) (E : Nat) : Prop := ∀ j, 1 ≤ j → j < E → ∃ n o p, FA σ μ N es (Fr j) j n o p ∧ 1 ≤ p ∧ FW σ μ Tn (Fr j) j o
def FSm (σ τ : Sg) (f : Nat) : Prop := gp τ 103 f = gp σ 103 f ∧ gi τ 104 f = gi σ 104 f ∧ gp τ 105 f = gp σ 105 f ∧ gp τ 106 f = gp σ 106 f ∧ gp τ 107 f = gp σ 107 f ∧ gp τ 108 f = gp σ 108 f ∧ gj τ 109 f = gj σ 109 f
def USm (μ ν : Mu) (j : Nat) : Prop := mI ν 10 j = mI μ 10 j ∧ mI ν 11 j = mI μ 11 j ∧ mJ ν 13 j = mJ μ 13 j ∧ ∀ i, i < 3 → mI ν 12 (3 * j - 3 + i) = mI μ 12 (3 * j - 3 + i)
theorem FSm.rf {σ : Sg} {f : Nat} : FSm σ σ f := ⟨rfl, rfl, rfl, rfl, rfl, rfl, rfl⟩
theorem FSm.tr {σ τ ρ : Sg} {f : Nat} (h : FSm σ τ f) (k : FSm τ ρ f) : FSm σ ρ f := ⟨k.1.trans h.1, k.2.1.trans h.2.1, k.2.2.1.trans h.2.2.1, k.2.2.2.1.trans h.2.2.2.1, k.2.2.2.2.1.trans h.2.2.2.2.1, k.2.2.2.2.2.1.trans h.2.2.2.2.2.1, k.2.2.2.2.2.2.trans h.2.2.2.2.2.2⟩
theorem FSm.v {σ τ : Sg} {f : Nat} (h : FSm σ τ f) {i : Nat} (hi : i < 3) : gp τ (105 + i) f = gp σ (105 + i) f := by
  rcases (show i = 0 ∨ i = 1 ∨ i = 2 by omega) with rfl | rfl | rfl
  · exact h.2.2.1
  · exact h.2.2.2.1
  · exact h.2.2.2.2.1
theorem USm.rf {μ : Mu} {j : Nat} : USm μ μ j := ⟨rfl, rfl, rfl, fun _ _ => rfl⟩
theorem USm.tr {μ ν ξ : Mu} {j : Nat} (h : USm μ ν j) (k : USm ν ξ j) : USm μ ξ j := ⟨k.1.trans h.1, k.2.1.trans h.2.1, k.2.2.1.trans h.2.2.1, fun i hi => (k.2.2.2 i hi).trans (h.2.2.2 i hi)⟩
section DYN
variable {d : Dp} {σ τ : Sg} {μ ν : Mu} {x pg mc mk sa ls es : Nat} {Fr Fr' : Nat → Nat} {F N Tn Tm Pn D E f j n o p : Nat}
theorem Wk.mo (h : Wk σ μ f j o p) (h4 : gi τ 104 f = gi σ 104 f) (h9 : gj τ 109 f = gj σ 109 f) (hj : mJ ν 13 j = mJ μ 13 j) : Wk τ ν f j o p := by
  unfold Wk at h ⊢
  rw [h4, h9, hj]
  exact h
theorem FA.mo (h : FA σ μ N es f j n o p) (s : FSm σ τ f) (u : USm μ ν j) (ha : ∀ i, ap τ es i = ap σ es i) (h1 : ∀ i, mI ν 1 i = mI μ 1 i) : FA τ ν N es f j n o p := by
  obtain ⟨a1, a2, a3, a4, a5, a6, a7, a8⟩ := h
  exact ⟨a1, u.1.trans a2, by rw [s.1, ha]; exact a3, a4, (h1 n).trans a5, a6, u.2.1.trans a7, a8.mo s.2.1 s.2.2.2.2.2.2 u.2.2.1⟩
theorem FW.mo (h : FW σ μ Tn f j o) (s : FSm σ τ f) (u : USm μ ν j) (hn : Tn ≤ Tm) (hg : ∀ a, gc σ a = 7 → gc τ a = 7 ∧ gi τ 600 a = gi σ 600 a) : FW τ ν Tm f j o := fun e i hi => by
  rw [s.v hi, u.2.2.2 i hi]
  exact (h e i hi).mo hn hg
theorem BL.mo (h : BL σ μ N es Tn Fr E) (hF : ∀ j, j < E → Fr' j = Fr j) (s : ∀ j, 1 ≤ j → j < E → FSm σ τ (Fr j)) (u : ∀ j, 1 ≤ j → j < E → USm μ ν j) (ha : ∀ i, ap τ es i = ap σ es i) (h1 : ∀ i, mI ν 1 i = mI μ 1 i) (hn : Tn ≤ Tm) (hg : ∀ a, gc σ a = 7 → gc τ a = 7 ∧ gi τ 600 a = gi σ 600 a) : BL τ ν N es Tm Fr' E := fun j hj hE => by
  obtain ⟨n, o, p, a, b, c⟩ := h j hj hE
  rw [hF j hE]
  exact ⟨n, o, p, a.mo (s j hj hE) (u j hj hE) ha h1, b, c.mo (s j hj hE) (u j hj hE) hn hg⟩
theorem GF.inj (h : GF σ Fr F) {i j : Nat} (hi : i ≤ F) (hj : j ≤ F) (hn : i ≠ j) : Fr i ≠ Fr j := fun e => by
  have q1 := (h.2.1 i hi).2.1
  have q2 := (h.2.1 j hj).2.1
  have := h.1
  rw [e, q2, nI_eq (by omega) (by omega)] at q1
  omega
/-- a frame begun -/
def bgσ (σ : Sg) (f : Nat) (b : Option Nat) : Sg := sj (sp (sp (sp (sp (si (sp σ 103 f b) 104 f (-1)) 105 f none) 106 f none) 107 f none) 108 f none) 109 f 0
theorem bg_lo {b : Option Nat} : LO σ (bgσ σ f b) := ((((((LO.rf.sp (by decide)).si (by decide)).sp (by decide)).sp (by decide)).sp (by decide)).sp (by decide)).sj
theorem bg_gp (σ : Sg) (f : Nat) (b : Option Nat) (g a : Nat) : gp (bgσ σ f b) g a = if g = 108 ∧ a = f then none else if g = 107 ∧ a = f then none else if g = 106 ∧ a = f then none else if g = 105 ∧ a = f then none else if g = 103 ∧ a = f then b else gp σ g a := by
  unfold bgσ
  rw [q_gp_sj, q_gp_sp, q_gp_sp, q_gp_sp, q_gp_sp, q_gp_si, q_gp_sp]
theorem bg_gi' (σ : Sg) (f : Nat) (b : Option Nat) (g a : Nat) : gi (bgσ σ f b) g a = if g = 104 ∧ a = f then -1 else gi σ g a := by
  unfold bgσ
  rw [q_gi_sj, q_gi_sp, q_gi_sp, q_gi_sp, q_gi_sp, q_gi_si, q_gi_sp]
theorem bg_gj (σ : Sg) (f : Nat) (b : Option Nat) (g a : Nat) : gj (bgσ σ f b) g a = if g = 109 ∧ a = f then 0 else gj σ g a := by
  unfold bgσ
  rw [q_gj_sj, q_gj_sp, q_gj_sp, q_gj_sp, q_gj_sp, q_gj_si, q_gj_sp]
theorem bg_at (σ : Sg) (f : Nat) (b : Option Nat) : gp (bgσ σ f b) 103 f = b ∧ gi (bgσ σ f b) 104 f = -1 ∧ gp (bgσ σ f b) 105 f = none ∧ gp (bgσ σ f b) 106 f = none ∧ gp (bgσ σ f b) 107 f = none ∧ gp (bgσ σ f b) 108 f = none ∧ gj (bgσ σ f b) 109 f = 0 := by
  refine ⟨?_, ?_, ?_, ?_, ?_, ?_, ?_⟩
  · rw [bg_gp, if_neg (by omega), if_neg (by omega), if_neg (by omega), if_neg (by omega), if_pos ⟨rfl, rfl⟩]
  · rw [bg_gi', if_pos ⟨rfl, rfl⟩]
  · rw [bg_gp, if_neg (by omega), if_neg (by omega), if_neg (by omega), if_pos ⟨rfl, rfl⟩]
  · rw [bg_gp, if_neg (by omega), if_neg (by omega), if_pos ⟨rfl, rfl⟩]
  · rw [bg_gp, if_neg (by omega), if_pos ⟨rfl, rfl⟩]
  · rw [bg_gp, if_pos ⟨rfl, rfl⟩]
  · rw [bg_gj, if_pos ⟨rfl, rfl⟩]
theorem bg_ne {a : Nat} {b : Option Nat} (h : a ≠ f) : FSm σ (bgσ σ f b) a := by
  refine ⟨?_, ?_, ?_, ?_, ?_, ?_, ?_⟩
  · rw [bg_gp, if_neg (by omega), if_neg (by omega), if_neg (by omega), if_neg (by omega), if_neg (by omega)]
  · rw [bg_gi', if_neg (by omega)]
  · rw [bg_gp, if_neg (by omega), if_neg (by omega), if_neg (by omega), if_neg (by omega), if_neg (by omega)]
  · rw [bg_gp, if_neg (by omega), if_neg (by omega), if_neg (by omega), if_neg (by omega), if_neg (by omega)]
  · rw [bg_gp, if_neg (by omega), if_neg (by omega), if_neg (by omega), if_neg (by omega), if_neg (by omega)]
  · rw [bg_gp, if_neg (by omega), if_neg (by omega), if_neg (by omega), if_neg (by omega), if_neg (by omega)]
  · rw [bg_gj, if_neg (by omega)]
theorem bg_gi (σ : Sg) (f : Nat) (b : Option Nat) {g a : Nat} (h : g ≠ 104) : gi (bgσ σ f b) g a = gi σ g a := by rw [bg_gi', if_neg (by omega)]
theorem bg_204 (σ : Sg) (f : Nat) (b : Option Nat) (a : Nat) : gp (bgσ σ f b) 204 a = gp σ 204 a := by rw [bg_gp, if_neg (by omega), if_neg (by omega), if_neg (by omega), if_neg (by omega), if_neg (by omega)]
theorem ce_begin {b : Option Nat} (h : gc σ f = 2) : ex_X0_begin d σ f b = some ((), bgσ σ f b) := by
  unfold ex_X0_begin
  rw [if_pos h]
  rfl
theorem en_S (μ : Mu) (D L K : Nat) (n : Int32) (f : Nat) : mS (enμ μ D L K n) f = if f = 818 then nI (D + 1) else if f = 823 then nI K else if f = 822 then nI L else mS μ f := by
  unfold enμ gv3
  simp only [q_mI_uI, q_mI_uJ, q_mI_uS, q_mJ_uI, q_mJ_uJ, q_mJ_uS, q_mS_uI, q_mS_uJ, q_mS_uS]
theorem en_I (μ : Mu) (D L K : Nat) (n : Int32) (k i : Nat) : mI (enμ μ D L K n) k i = if k = 12 ∧ i = 3 * (D + 1) - 3 + 2 then -1 else if k = 12 ∧ i = 3 * (D + 1) - 3 + 1 then -1 else if k = 12 ∧ i = 3 * (D + 1) - 3 then -1 else if k = 11 ∧ i = D + 1 then 0 else if k = 10 ∧ i = D + 1 then n else mI μ k i := by
  unfold enμ gv3
  simp only [q_mI_uI, q_mI_uJ, q_mI_uS, q_mJ_uI, q_mJ_uJ, q_mJ_uS, q_mS_uI, q_mS_uJ, q_mS_uS]
theorem en_J (μ : Mu) (D L K : Nat) (n : Int32) (k i : Nat) : mJ (enμ μ D L K n) k i = mJ μ k i := by
  unfold enμ gv3
  simp only [q_mI_uI, q_mI_uJ, q_mI_uS, q_mJ_uI, q_mJ_uJ, q_mJ_uS, q_mS_uI, q_mS_uJ, q_mS_uS]
theorem en_lm (μ : Mu) (D L K : Nat) (n : Int32) : LM μ (enμ μ D L K n) := by
  unfold enμ gv3
  exact (((((((LM.rf.uS (by omega)).uS (by omega)).uS (by omega)).uI (by omega)).uI (by omega)).uI (by omega)).uI (by omega)).uI (by omega)
theorem en_u {L K : Nat} {n : Int32} (h1 : 1 ≤ j) (h : j < D + 1) : USm μ (enμ μ D L K n) j := by
  refine ⟨?_, ?_, en_J .., fun i hi => ?_⟩
  · rw [en_I, if_neg (by omega), if_neg (by omega), if_neg (by omega), if_neg (by omega), if_neg (by omega)]
  · rw [en_I, if_neg (by omega), if_neg (by omega), if_neg (by omega), if_neg (by omega), if_neg (by omega)]
  · rw [en_I, if_neg (by omega), if_neg (by omega), if_neg (by omega), if_neg (by omega), if_neg (by omega)]
/-- what an open frame may still make -/
def cr (μ : Mu) (j : Nat) : Nat := if mI μ 1 (mI μ 10 j).toNatClampNeg = 15 ∧ mI μ 11 j = 2 then 0 else 1
def sc (μ : Mu) : Nat → Nat
  | 0 => 0
  | D + 1 => sc μ D + cr μ (D + 1)
theorem cr_le (μ : Mu) (j : Nat) : cr μ j ≤ 1 := by unfold cr; split <;> omega
theorem cr_eq (h1 : ∀ i, mI ν 1 i = mI μ 1 i) (h2 : mI ν 10 j = mI μ 10 j) (h3 : mI ν 11 j = mI μ 11 j) : cr ν j = cr μ j := by
  unfold cr
  rw [h1, h2, h3]
theorem scq_eq (h1 : ∀ i, mI ν 1 i = mI μ 1 i) : ∀ D, (∀ j, 1 ≤ j → j ≤ D → mI ν 10 j = mI μ 10 j ∧ mI ν 11 j = mI μ 11 j) → sc ν D = sc μ D
  | 0, _ => rfl
  | D + 1, h => by
    rw [sc, sc, scq_eq h1 D (fun j a b => h j a (by omega)), cr_eq h1 (h (D + 1) (by omega) (by omega)).1 (h (D + 1) (by omega) (by omega)).2]
theorem cr_1 (h : mI μ 11 j ≠ 2) : cr μ j = 1 := by
  unfold cr
  rw [if_neg (fun q => h q.2)]
theorem cr_o {n o : Nat} (hn : n < 4000) (h1 : mI μ 10 j = nI n) (h2 : mI μ 1 n = nI o) (ho : o ≤ 20) (h : o ≠ 15) : cr μ j = 1 := by
  unfold cr
  rw [if_neg (fun q => ?_)]
  have := q.1
  rw [h1, nI_clamp (by omega), h2, show (15 : Int32) = nI 15 from rfl, nI_eq (by omega) (by omega)] at this
  exact h this
def MN (σ : Sg) (μ : Mu) (mc : Nat) (Fr : Nat → Nat) (D L K S0 : Nat) : Prop := gp σ 204 mc = some (Fr D) ∧ mS μ 818 = nI D ∧ mS μ 822 = nI L ∧ mS μ 823 = nI K ∧ gi σ 210 mc = nI K ∧ gi σ 208 mc = nI (K + L) ∧ mS μ 824 = nI S0 ∧ gi σ 207 mc = nI S0 ∧ S0 + K + L ≤ 50000 ∧ mS μ 826 = 0 ∧ mS μ 827 = -1
def OK (σ : Sg) (μ : Mu) (mc : Nat) : Prop := mS μ 820 = 0 ∧ gi σ 209 mc = 0 ∧ gi σ 211 mc = 0 ∧ gi σ 212 mc = -1
/-- between two turns -/
def RS (d : Dp) (σ : Sg) (μ : Mu) (x pg mc mk sa ls es : Nat) (Fr : Nat → Nat) (F N Tn Pn D L K S0 : Nat) : Prop := CR d σ μ x pg mc mk sa ls es Fr F N Tn Pn ∧ D ≤ F ∧ MN σ μ mc Fr D L K S0 ∧ BL σ μ N es Tn Fr D ∧ Tn + sc μ D ≤ S0 + K ∧
  ((mS μ 820 = -1 ∧ gi σ 209 mc = 1 ∧ gi σ 211 mc = 0 ∧ gi σ 212 mc = -1) ∨
   ((∃ e, 1 ≤ e ∧ e ≤ 8 ∧ mS μ 820 = nI e ∧ gi σ 209 mc = 0 ∧ gi σ 211 mc = nI e ∧ gi σ 212 mc = mS μ 821) ∧ (1 ≤ D → ∃ n o p, FA σ μ N es (Fr D) D n o p)) ∨
   (OK σ μ mc ∧ (D = 0 → pr σ Tn (gp σ 108 (Fr 0)) (mS μ 819)) ∧ (1 ≤ D → ∃ n o p, FA σ μ N es (Fr D) D n o p ∧ ((p = 0 ∧ FW σ μ Tn (Fr D) D o) ∨ (1 ≤ p ∧ FP σ μ Tn (Fr D) D o p)))))
def ph (μ : Mu) (D L : Nat) : Nat := 4 * L + D + sc μ D + (if mS μ 820 = 0 then 1 else 0)
/-- a piece of a turn, both sides -/
def PC (d : Dp) (x pg mc mk sa ls es : Nat) (F N Tn Pn S0 P : Nat) (A : Option (Unit × Sg × Nat × Nat)) (B : Option (Unit × Mu)) : Prop := ∃ τ ν k n Fr' F' Tm Pm D' L' K', A = some ((), τ, k, n) ∧ B = some ((), ν) ∧ RS d τ ν x pg mc mk sa ls es Fr' F' N Tm Pm D' L' K' S0 ∧ F ≤ F' ∧ Tn ≤ Tm ∧ Pn ≤ Pm ∧ k ≤ 2 * (Tm - Tn) + (F' - F) ∧ n ≤ 7 * (Tm - Tn) + (Pm - Pn) + 10 * (F' - F) ∧ (mS ν 820 = -1 ∨ ph ν D' L' + 1 ≤ P)
end DYN
