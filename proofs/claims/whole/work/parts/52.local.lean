def lI (f : Nat) : Bool := [104, 207, 208, 209, 210, 211, 212].contains f
def lP (f : Nat) : Bool := [103, 105, 106, 107, 108, 204].contains f
/-- only frames' fields and the machine's numbers have changed -/
def LO (σ τ : Sg) : Prop := hs τ = hs σ ∧ (∀ a, gc τ a = gc σ a) ∧ (∀ a, gl τ a = gl σ a) ∧ (∀ a i, ap τ a i = ap σ a i) ∧ (∀ f a, lI f = false → gi τ f a = gi σ f a) ∧ (∀ f a, f ≠ 109 → gj τ f a = gj σ f a) ∧ (∀ f a, lP f = false → gp τ f a = gp σ f a)
theorem LO.rf {σ : Sg} : LO σ σ := ⟨rfl, fun _ => rfl, fun _ => rfl, fun _ _ => rfl, fun _ _ _ => rfl, fun _ _ _ => rfl, fun _ _ _ => rfl⟩
theorem LO.tr {σ τ ρ : Sg} (h : LO σ τ) (k : LO τ ρ) : LO σ ρ := by
  obtain ⟨h1, h2, h3, h4, h5, h6, h7⟩ := h
  obtain ⟨k1, k2, k3, k4, k5, k6, k7⟩ := k
  exact ⟨k1.trans h1, fun a => (k2 a).trans (h2 a), fun a => (k3 a).trans (h3 a), fun a i => (k4 a i).trans (h4 a i), fun f a e => (k5 f a e).trans (h5 f a e), fun f a e => (k6 f a e).trans (h6 f a e), fun f a e => (k7 f a e).trans (h7 f a e)⟩
theorem LO.si {σ τ : Sg} (h : LO σ τ) {f a : Nat} {v : Int32} (hf : lI f = true) : LO σ (si τ f a v) := h.tr ⟨rfl, fun _ => rfl, fun _ => rfl, fun _ _ => rfl, fun g b hg => by rw [q_gi_si, if_neg (fun q => by rw [q.1, hf] at hg; cases hg)], fun _ _ _ => rfl, fun _ _ _ => rfl⟩
theorem LO.sj {σ τ : Sg} (h : LO σ τ) {a : Nat} {v : Int64} : LO σ (sj τ 109 a v) := h.tr ⟨rfl, fun _ => rfl, fun _ => rfl, fun _ _ => rfl, fun _ _ _ => rfl, fun g b hg => by rw [q_gj_sj, if_neg (fun q => hg q.1)], fun _ _ _ => rfl⟩
theorem LO.sp {σ τ : Sg} (h : LO σ τ) {f a : Nat} {v : Option Nat} (hf : lP f = true) : LO σ (sp τ f a v) := h.tr ⟨rfl, fun _ => rfl, fun _ => rfl, fun _ _ => rfl, fun _ _ _ => rfl, fun _ _ _ => rfl, fun g b hg => by rw [q_gp_sp, if_neg (fun q => by rw [q.1, hf] at hg; cases hg)]⟩
theorem oI_lI {f : Nat} (h : oI f = true) : lI f = false := by
  unfold oI at h
  simp at h
  rcases h with rfl | rfl | rfl | rfl | rfl | rfl | rfl <;> rfl
theorem oP_lP {f : Nat} (h : oP f = true) : lP f = false := by
  unfold oP at h
  simp at h
  rcases h with rfl | rfl | rfl | rfl | rfl | rfl | rfl | rfl | rfl | rfl <;> rfl
theorem LO.o {σ τ : Sg} (h : LO σ τ) (z : GZ σ) : AgO σ τ := by
  obtain ⟨h1, h2, h3, h4, h5, h6, h7⟩ := h
  exact ⟨fun a ha => by rw [h2] at ha; rw [h1]; exact z a ha, fun a _ => ⟨h2 a, h3 a⟩, fun a f _ hf => h5 f a (oI_lI hf), fun a _ => h6 402 a (by decide), fun a f _ hf => h7 f a (oP_lP hf), fun a i _ => h4 a i⟩
theorem LO.t {σ τ : Sg} (h : LO σ τ) {sa : Nat} : AgT σ τ sa := by
  obtain ⟨h1, h2, h3, h4, h5, h6, h7⟩ := h
  exact ⟨fun a => by rw [h2], fun a _ => ⟨h5 600 a rfl, h5 601 a rfl, h6 602 a (by decide), h7 603 a rfl, h7 604 a rfl, h5 605 a rfl, h7 606 a rfl⟩, fun q _ _ => ⟨h2 q, h3 q, h4 q⟩⟩
theorem LO.s {σ τ : Sg} (h : LO σ τ) {mc mk sa : Nat} : AgS σ τ mc mk sa := by
  obtain ⟨h1, h2, h3, h4, h5, h6, h7⟩ := h
  exact ⟨h5 300 mk rfl, h5 301 mk rfl, fun i => h4 sa i, h7 205 mc rfl, h7 206 mc rfl⟩
/-- the same of the reference -/
def LM (μ ν : Mu) : Prop := (∀ k i, k ≠ 10 → k ≠ 11 → k ≠ 12 → mI ν k i = mI μ k i) ∧ (∀ k i, k ≠ 13 → mJ ν k i = mJ μ k i) ∧ (∀ f, (f < 818 ∨ 823 < f) → mS ν f = mS μ f)
theorem LM.rf {μ : Mu} : LM μ μ := ⟨fun _ _ _ _ _ => rfl, fun _ _ _ => rfl, fun _ _ => rfl⟩
theorem LM.tr {μ ν ξ : Mu} (h : LM μ ν) (k : LM ν ξ) : LM μ ξ := ⟨fun a i p q r => (k.1 a i p q r).trans (h.1 a i p q r), fun a i p => (k.2.1 a i p).trans (h.2.1 a i p), fun f p => (k.2.2 f p).trans (h.2.2 f p)⟩
theorem LM.uI {μ ν : Mu} (h : LM μ ν) {k i : Nat} {v : Int32} (hk : k = 10 ∨ k = 11 ∨ k = 12) : LM μ (uI ν k i v) := h.tr ⟨fun a b p q r => by rw [q_mI_uI, if_neg (by omega)], fun _ _ _ => rfl, fun _ _ => rfl⟩
theorem LM.uJ {μ ν : Mu} (h : LM μ ν) {i : Nat} {v : Int64} : LM μ (uJ ν 13 i v) := h.tr ⟨fun _ _ _ _ _ => rfl, fun a b p => by rw [q_mJ_uJ, if_neg (by omega)], fun _ _ => rfl⟩
theorem LM.uS {μ ν : Mu} (h : LM μ ν) {f : Nat} {v : Int32} (hf : 818 ≤ f ∧ f ≤ 823) : LM μ (uS ν f v) := h.tr ⟨fun _ _ _ _ _ => rfl, fun _ _ _ => rfl, fun g p => by rw [q_mS_uS, if_neg (by omega)]⟩
theorem LM.n {μ ν : Mu} (h : LM μ ν) : AgN μ ν := ⟨h.2.2 804 (by omega), fun i => ⟨h.1 0 i (by decide) (by decide) (by decide), h.1 1 i (by decide) (by decide) (by decide), h.1 2 i (by decide) (by decide) (by decide), h.2.1 3 i (by decide)⟩⟩
theorem LM.m {μ ν : Mu} (h : LM μ ν) : AgM μ ν := ⟨h.2.2 809 (by omega), h.2.2 811 (by omega), fun i => ⟨h.1 4 i (by decide) (by decide) (by decide), h.1 5 i (by decide) (by decide) (by decide), h.1 6 i (by decide) (by decide) (by decide), h.1 8 i (by decide) (by decide) (by decide), h.2.1 7 i (by decide)⟩⟩
theorem LM.l {μ ν : Mu} (h : LM μ ν) : AgL μ ν := ⟨fun i => h.1 9 i (by decide) (by decide) (by decide), h.2.2 813 (by omega), h.2.2 825 (by omega)⟩
section LOC
variable {d : Dp} {σ τ : Sg} {μ ν : Mu} {x pg mc mk sa ls es : Nat} {Fr : Nat → Nat} {F N Tn Pn : Nat}
theorem CR.lo (h : CR d σ μ x pg mc mk sa ls es Fr F N Tn Pn) (l : LO σ τ) (m : LM μ ν) : CR d τ ν x pg mc mk sa ls es Fr F N Tn Pn := h.ag (l.o h.2.1) l.t l.s m.n m.m m.l
theorem CR.given (h : CR d σ μ x pg mc mk sa ls es Fr F N Tn Pn) {q : Option Nat} {v : Int32} (hp : pr σ Tn q v) : CR d (sp σ 206 mc q) (uS μ 825 v) x pg mc mk sa ls es Fr F N Tn Pn := by
  obtain ⟨g1, g2, g3, g4, g5⟩ := h.2.2.2.2.2
  refine h.mk (AgO.sp h.2.1 (by decide)) ⟨rfl, fun _ => ⟨rfl, rfl, rfl, rfl⟩⟩ (h.2.2.2.2.1.ag ⟨fun _ => Iff.rfl, fun _ _ => ⟨rfl, rfl, rfl, rfl, rfl, rfl, rfl⟩, fun p hp2 hne => ⟨rfl, rfl, fun j => rfl⟩⟩ ⟨rfl, rfl, fun _ => ⟨rfl, rfl, rfl, rfl, rfl⟩⟩) ⟨g1, g2, g3, g4, ?_⟩
  rw [q_gp_sp, if_pos ⟨rfl, rfl⟩, q_mS_uS, if_pos rfl]
  exact hp
theorem ce_at_no (h : CR d σ μ x pg mc mk sa ls es Fr F N Tn Pn) {v : Int32} (hv : v < 0 ∨ nI N ≤ v) : ex_X4_at d σ pg v = some (none, σ) := by
  obtain ⟨c1, c2, c3, c4, c5, c6, c7, c8, c9, c10, c11, c12, c13, c14⟩ := h.1
  obtain ⟨n1, n2, n3, n4, -⟩ := h.2.2.2.1
  unfold ex_X4_at
  by_cases v0 : v < 0
  · rw [if_pos v0]
  · rw [if_neg v0, if_pos c3]
    simp only [c14, Option.bind_some]
    rw [if_pos c5]
    unfold ex_Jx4a65c_size_8abf5
    rw [if_pos c5, n3]
    simp only [b2_some]
    rw [if_pos (by rcases hv with q | q; exact absurd q v0; exact q)]
theorem ce_at_yes (h : CR d σ μ x pg mc mk sa ls es Fr F N Tn Pn) {i : Nat} (hi : i < N) : ∃ b, ap σ es i = some b ∧ Nk σ μ N b i ∧ ex_X4_at d σ pg (nI i) = some (some b, σ) := by
  obtain ⟨c1, c2, c3, c4, c5, c6, c7, c8, c9, c10, c11, c12, c13, c14⟩ := h.1
  obtain ⟨n1, n2, n3, n4, n5, n6, n7⟩ := h.2.2.2.1
  obtain ⟨b, hb, hk⟩ := n6 i hi
  refine ⟨b, hb, hk, ?_⟩
  have h13 : gc σ es = 13 ∧ N ≤ gl σ es ∧ gl σ es ≤ 800 := by rcases n5 with k | k <;> omega
  unfold ex_X4_at
  rw [if_neg (nI_nl (by omega)), if_pos c3]
  simp only [c14, Option.bind_some]
  rw [if_pos c5]
  unfold ex_Jx4a65c_size_8abf5
  rw [if_pos c5, n3]
  simp only [b2_some]
  rw [if_neg (by rw [nI_leI (by omega) (by omega)]; omega), if_pos c3]
  simp only [c14, Option.bind_some]
  rw [if_pos c5]
  unfold ex_Jx4a65c_get_915e3 ex_J15_checkIndex_7cf53 ex_J3_checkIndex_8e157
  rw [if_pos c5, n3, if_neg (nI_nl (by omega)), if_pos (by rw [nI_ltI (by omega) (by omega)]; omega)]
  simp only [b2_some]
  rw [if_pos c5]
  unfold ex_Jx4a65c_elementData_915e3
  rw [if_pos c5]
  simp only [n4, Option.bind_some]
  rw [if_pos h13.1, if_pos (by rw [nI_clamp (by omega)]; intro q; rcases q with q | q; exact nI_nl (by omega) q; omega), nI_clamp (by omega), hb]
  simp only [b2_some]
  rw [if_pos (show some b = none ∨ gc σ ((some b).getD 0) = 5 from Or.inr hk.1)]
theorem ce_works {nb o w : Nat} (h5 : gc σ nb = 5) (ho : gi σ 401 nb = nI o) (ho2 : o ≤ 20) (hw : w < 3) : ex_X3_works d σ nb (nI w) = some (if nmd o w = true then 1 else 0, σ) := by
  unfold ex_X3_works
  rw [if_pos h5, ho]
  rcases (show w = 0 ∨ w = 1 ∨ w = 2 by omega) with rfl | rfl | rfl <;> rcases (show o = 0 ∨ o = 1 ∨ o = 2 ∨ o = 3 ∨ o = 4 ∨ o = 5 ∨ o = 6 ∨ o = 7 ∨ o = 8 ∨ o = 9 ∨ o = 10 ∨ o = 11 ∨ o = 12 ∨ o = 13 ∨ o = 14 ∨ o = 15 ∨ o = 16 ∨ o = 17 ∨ o = 18 ∨ o = 19 ∨ o = 20 by omega) with rfl | rfl | rfl | rfl | rfl | rfl | rfl | rfl | rfl | rfl | rfl | rfl | rfl | rfl | rfl | rfl | rfl | rfl | rfl | rfl | rfl <;> rfl
end LOC
