def fσ (σ : Sg) (mc : Nat) (n k : Int32) : Sg := si (si σ 212 mc n) 211 mc k
section CEV
variable {d : Dp} {σ : Sg} {mc fa nb t mk Tn : Nat} {k : Int32}
theorem ce_fail (h : gc σ mc = 3) (n k : Int32) : ex_X1_failAt d σ mc n k = some (none, fσ σ mc n k) := by
  unfold ex_X1_failAt
  rw [if_pos h]
  rfl
theorem ce_lacks_none (h3 : gc σ mc = 3) (hf : gc σ fa = 2) (hn : gp σ 103 fa = some nb) (h5 : gc σ nb = 5) : ex_X1_lacks d σ mc (some fa) none k = some (1, fσ σ mc (gi σ 400 nb) 1) := by
  unfold ex_X1_lacks
  rw [if_pos rfl]
  simp only [Option.bind_some, hn]
  rw [if_pos hf, if_pos h5, if_pos h3, ce_fail h3]
  rfl
theorem ce_isA_yes (h7 : gc σ t = 7) (hk : gi σ 601 t = k ∨ (k = 2 ∧ gi σ 601 t = 3)) : ex_X5_isA d σ t k = some (1, σ) := by
  unfold ex_X5_isA
  rw [if_pos h7]
  by_cases h1 : gi σ 601 t = k
  · rw [if_pos h1]
  · rw [if_neg h1]
    rcases hk with hk | hk
    · exact absurd hk h1
    · rw [if_pos hk.1, if_pos hk.2]
theorem ce_isA_no (h7 : gc σ t = 7) (hk : ¬ (gi σ 601 t = k ∨ (k = 2 ∧ gi σ 601 t = 3))) : ex_X5_isA d σ t k = some (0, σ) := by
  unfold ex_X5_isA
  rw [if_pos h7, if_neg (fun q => hk (Or.inl q))]
  by_cases h2 : k = 2
  · rw [if_pos h2, if_neg (fun q => hk (Or.inr ⟨h2, q⟩))]
  · rw [if_neg h2]
theorem ce_lacks_yes (h7 : gc σ t = 7) (hk : gi σ 601 t = k ∨ (k = 2 ∧ gi σ 601 t = 3)) : ex_X1_lacks d σ mc (some fa) (some t) k = some (0, σ) := by
  unfold ex_X1_lacks
  rw [if_neg (by simp)]
  simp only [Option.bind_some]
  rw [if_pos h7, ce_isA_yes h7 hk]
  simp only [b2_some]
  rw [if_neg (by decide)]
theorem ce_lacks_no (h3 : gc σ mc = 3) (hf : gc σ fa = 2) (hn : gp σ 103 fa = some nb) (h5 : gc σ nb = 5) (h7 : gc σ t = 7) (hk : ¬ (gi σ 601 t = k ∨ (k = 2 ∧ gi σ 601 t = 3))) : ex_X1_lacks d σ mc (some fa) (some t) k = some (1, fσ σ mc (gi σ 400 nb) 3) := by
  unfold ex_X1_lacks
  rw [if_neg (by simp)]
  simp only [Option.bind_some]
  rw [if_pos h7, ce_isA_no h7 hk]
  simp only [b2_some]
  rw [if_pos trivial]
  simp only [hn, Option.bind_some]
  rw [if_pos hf, if_pos h5, if_pos h3, ce_fail h3]
  rfl
theorem ce_withValue (hm : gc σ mk = 4) (hn : mk ≠ hs σ) (h : gi σ 300 mk = nI Tn) (v : Int64) : ex_X2_withValue d σ mk k v = some (some (hs σ), sj (nT σ mk Tn k) 602 (hs σ) v, 0 + 1, 0 + 7) := by
  unfold ex_X2_withValue
  rw [if_pos (by rw [q_gc_nw, if_neg hn]; exact hm), q_gi_nw, if_neg hn, h, nI_1]
  unfold ex_X5_init
  rw [if_pos (by rw [q_gc_si, q_gc_nw, if_pos rfl])]
  simp only [b2_some]
  rw [if_pos (by rw [q_gc_si, q_gc_si, q_gc_si, q_gc_nw, if_pos rfl])]
  rfl
theorem ce_withFields (hm : gc σ mk = 4) (hn : mk ≠ hs σ) (h : gi σ 300 mk = nI Tn) (q1 q2 : Option Nat) : ex_X2_withFields d σ mk k q1 q2 = some (some (hs σ), sp (sp (nT σ mk Tn k) 603 (hs σ) q1) 604 (hs σ) q2, 0 + 1, 0 + 7) := by
  unfold ex_X2_withFields
  rw [if_pos (by rw [q_gc_nw, if_neg hn]; exact hm), q_gi_nw, if_neg hn, h, nI_1]
  unfold ex_X5_init
  rw [if_pos (by rw [q_gc_si, q_gc_nw, if_pos rfl])]
  simp only [b2_some]
  rw [if_pos (by rw [q_gc_si, q_gc_si, q_gc_si, q_gc_nw, if_pos rfl])]
  rfl
theorem ce_rowWithout (hm : gc σ mk = 4) (hn : mk ≠ hs σ) (h : gi σ 300 mk = nI Tn) : ex_X2_rowWithoutPlaces d σ mk = some (some (hs σ), nT σ mk Tn 5, 0 + 1, 0 + 7) := by
  unfold ex_X2_rowWithoutPlaces
  rw [if_pos (by rw [q_gc_nw, if_neg hn]; exact hm), q_gi_nw, if_neg hn, h, nI_1]
  unfold ex_X5_init
  rw [if_pos (by rw [q_gc_si, q_gc_nw, if_pos rfl])]
  rfl
theorem ce_get (h5 : gc σ nb = 5) {w : Nat} (hw : w < 3) : ex_X3_get d σ nb (nI w) = some (gi σ (403 + w) nb, σ) := by
  unfold ex_X3_get
  rcases (show w = 0 ∨ w = 1 ∨ w = 2 by omega) with rfl | rfl | rfl
  · rw [if_pos (by decide), if_pos h5]
  · rw [if_neg (by decide), if_pos (by decide), if_pos h5]
  · rw [if_neg (by decide), if_neg (by decide), if_pos h5]
end CEV
/-- frames at work, the machine's numbers: as they were -/
def AgD (σ τ : Sg) (mc : Nat) : Prop := (∀ a, gc σ a = 2 → gp τ 103 a = gp σ 103 a ∧ gi τ 104 a = gi σ 104 a ∧ gp τ 105 a = gp σ 105 a ∧ gp τ 106 a = gp σ 106 a ∧ gp τ 107 a = gp σ 107 a ∧ gp τ 108 a = gp σ 108 a ∧ gj τ 109 a = gj σ 109 a) ∧ gp τ 204 mc = gp σ 204 mc ∧ gi τ 207 mc = gi σ 207 mc ∧ gi τ 208 mc = gi σ 208 mc ∧ gi τ 209 mc = gi σ 209 mc ∧ gi τ 210 mc = gi σ 210 mc
def AgE (μ ν : Mu) : Prop := (∀ i, mI ν 10 i = mI μ 10 i ∧ mI ν 11 i = mI μ 11 i ∧ mI ν 12 i = mI μ 12 i ∧ mJ ν 13 i = mJ μ 13 i) ∧ mS ν 818 = mS μ 818 ∧ mS ν 819 = mS μ 819 ∧ mS ν 822 = mS μ 822 ∧ mS ν 823 = mS μ 823 ∧ mS ν 824 = mS μ 824 ∧ mS ν 826 = mS μ 826 ∧ mS ν 827 = mS μ 827
theorem AgD.rf {σ : Sg} {mc : Nat} : AgD σ σ mc := ⟨fun _ _ => ⟨rfl, rfl, rfl, rfl, rfl, rfl, rfl⟩, rfl, rfl, rfl, rfl, rfl⟩
theorem AgE.rf {μ : Mu} : AgE μ μ := ⟨fun _ => ⟨rfl, rfl, rfl, rfl⟩, rfl, rfl, rfl, rfl, rfl, rfl, rfl⟩
/-- what an act comes to, on both sides -/
def AO (d : Dp) (σ : Sg) (μ : Mu) (x pg mc mk sa ls es : Nat) (Fr : Nat → Nat) (F N Tn Pn w : Nat) (q : Option Nat) (τ : Sg) (k n : Nat) (r : Int32) (ν : Mu) : Prop :=
  ∃ Tm Pm, CR d τ ν x pg mc mk sa ls es Fr F N Tm Pm ∧ AgO σ τ ∧ (AgN μ ν ∧ ∀ a, gc σ a = 7 → gi τ 600 a = gi σ 600 a) ∧ AgD σ τ mc ∧ AgE μ ν ∧ Tn ≤ Tm ∧ Tm ≤ Tn + 1 ∧ Pn ≤ Pm ∧ k ≤ 2 * (Tm - Tn) ∧ n ≤ 7 * (Tm - Tn) + (Pm - Pn) ∧
    ((mS ν 820 = 0 ∧ gi τ 211 mc = 0 ∧ gi τ 212 mc = gi σ 212 mc ∧ pr τ Tm q r) ∨ ∃ e, Tm = Tn ∧ 1 ≤ e ∧ e ≤ 8 ∧ mS ν 820 = nI e ∧ mS ν 821 = nI w ∧ gi τ 211 mc = nI e ∧ gi τ 212 mc = nI w)
theorem fσ_o {σ : Sg} (h : GZ σ) {mc : Nat} {n k : Int32} : AgO σ (fσ σ mc n k) := (AgO.si h (by decide)).tr (AgO.si (show GZ (si σ 212 mc n) from h) (by decide))
theorem fσ_t {σ : Sg} {mc sa : Nat} {n k : Int32} : AgT σ (fσ σ mc n k) sa := ⟨fun _ => Iff.rfl, fun _ _ => ⟨rfl, rfl, rfl, rfl, rfl, rfl, rfl⟩, fun _ _ _ => ⟨rfl, rfl, fun _ => rfl⟩⟩
theorem fσ_s {σ : Sg} {mc mk sa : Nat} {n k : Int32} : AgS σ (fσ σ mc n k) mc mk sa := ⟨rfl, rfl, fun _ => rfl, rfl, rfl⟩
theorem fσ_d {σ : Sg} {mc : Nat} {n k : Int32} : AgD σ (fσ σ mc n k) mc := ⟨fun _ _ => ⟨rfl, rfl, rfl, rfl, rfl, rfl, rfl⟩, rfl, rfl, rfl, rfl, rfl⟩
theorem fσ_at (σ : Sg) (mc : Nat) (n k : Int32) : gi (fσ σ mc n k) 211 mc = k ∧ gi (fσ σ mc n k) 212 mc = n := by
  unfold fσ
  rw [q_gi_si, if_pos ⟨rfl, rfl⟩, q_gi_si, if_neg (fun q => absurd q.1 (by decide)), q_gi_si, if_pos ⟨rfl, rfl⟩]
  exact ⟨rfl, rfl⟩
/-- the same of the reference -/
def fμ (μ : Mu) (n k : Int32) : Mu := uS (uS μ 820 k) 821 n
theorem fμ_S (μ : Mu) (n k : Int32) (f : Nat) : mS (fμ μ n k) f = if f = 821 then n else if f = 820 then k else mS μ f := rfl
theorem fμ_e {μ : Mu} {n k : Int32} : AgE μ (fμ μ n k) := ⟨fun _ => ⟨rfl, rfl, rfl, rfl⟩, rfl, rfl, rfl, rfl, rfl, rfl, rfl⟩
section AOL
variable {d : Dp} {σ : Sg} {μ : Mu} {x pg mc mk sa ls es : Nat} {Fr : Nat → Nat} {F N Tn Pn w : Nat}
theorem CR.fail (h : CR d σ μ x pg mc mk sa ls es Fr F N Tn Pn) (n k n' k' : Int32) : CR d (fσ σ mc n k) (fμ μ n' k') x pg mc mk sa ls es Fr F N Tn Pn :=
  h.ag (fσ_o h.2.1) fσ_t fσ_s ⟨rfl, fun _ => ⟨rfl, rfl, rfl, rfl⟩⟩ ⟨rfl, rfl, fun _ => ⟨rfl, rfl, rfl, rfl, rfl⟩⟩ ⟨fun _ => rfl, rfl, rfl⟩
theorem AO.fail (h : CR d σ μ x pg mc mk sa ls es Fr F N Tn Pn) {e : Nat} (h1 : 1 ≤ e) (h8 : e ≤ 8) (q : Option Nat) (r : Int32) : AO d σ μ x pg mc mk sa ls es Fr F N Tn Pn w q (fσ σ mc (nI w) (nI e)) 0 0 r (fμ μ (nI w) (nI e)) :=
  ⟨Tn, Pn, h.fail _ _ _ _, fσ_o h.2.1, ⟨⟨rfl, fun _ => ⟨rfl, rfl, rfl, rfl⟩⟩, fun _ _ => rfl⟩, fσ_d, fμ_e, by omega, by omega, by omega, by omega, by omega, Or.inr ⟨e, rfl, h1, h8, rfl, rfl, (fσ_at ..).1, (fσ_at ..).2⟩⟩
theorem AO.same (h : CR d σ μ x pg mc mk sa ls es Fr F N Tn Pn) (h0 : mS μ 820 = 0) (hf : gi σ 211 mc = 0) {q : Option Nat} {r : Int32} (hp : pr σ Tn q r) : AO d σ μ x pg mc mk sa ls es Fr F N Tn Pn w q σ 0 0 r μ :=
  ⟨Tn, Pn, h, AgO.rf h.2.1, ⟨⟨rfl, fun _ => ⟨rfl, rfl, rfl, rfl⟩⟩, fun _ _ => rfl⟩, AgD.rf, AgE.rf, by omega, by omega, by omega, by omega, by omega, Or.inl ⟨h0, hf, rfl, hp⟩⟩
/-- 'is' and 'lacks', beside each other -/
theorem sim_is (h : CR d σ μ x pg mc mk sa ls es Fr F N Tn Pn) {fa nb : Nat} (hf : gc σ fa = 2) (hn : gp σ 103 fa = some nb) (h5 : gc σ nb = 5) (hw : gi σ 400 nb = nI w) {q : Option Nat} {v : Int32} (hq : pr σ Tn q v) (k : Int32) :
    (∃ t j, q = some t ∧ v = nI j ∧ j < Tn ∧ gc σ t = 7 ∧ gi σ 600 t = nI j ∧ Tk σ μ Tn Pn t j ∧ (mI μ 4 j = k ∨ (k = 2 ∧ mI μ 4 j = 3)) ∧ ex_X1_lacks d σ mc (some fa) q k = some (0, σ) ∧ mx_X7_is μ (nI w) v k = some (1, μ)) ∨
    (∃ e : Nat, (e = 1 ∨ e = 3) ∧ ex_X1_lacks d σ mc (some fa) q k = some (1, fσ σ mc (nI w) (nI e)) ∧ mx_X7_is μ (nI w) v k = some (0, fμ μ (nI w) (nI e))) := by
  have h3 : gc σ mc = 3 := h.1.2.1
  have hG := h.2.2.2.2.1
  have h50 := hG.1
  rcases hq with ⟨hv, hq⟩ | ⟨t, j, hq, hv, hj, h7, h6⟩
  · subst hv
    subst hq
    exact Or.inr ⟨1, Or.inl rfl, by rw [ce_lacks_none h3 hf hn h5, hw]; rfl, mx_is_m1 ..⟩
  · subst hv
    subst hq
    obtain ⟨i, hi, e6, hk⟩ := hG.2.2.2.2.1 t h7
    have hij : i = j := (nI_eq (by omega) (by omega)).mp (e6.symm.trans h6)
    subst hij
    have e1 : gi σ 601 t = mI μ 4 i := hk.1
    by_cases hc : mI μ 4 i = k ∨ (k = 2 ∧ mI μ 4 i = 3)
    · exact Or.inl ⟨t, i, rfl, rfl, hj, h7, h6, hk, hc, ce_lacks_yes h7 (by rw [e1]; exact hc), mx_is_yes μ _ (by omega) hc⟩
    · exact Or.inr ⟨3, Or.inr rfl, by rw [ce_lacks_no h3 hf hn h5 h7 (by rw [e1]; exact hc), hw]; rfl, mx_is_no μ _ (by omega) hc⟩
end AOL
