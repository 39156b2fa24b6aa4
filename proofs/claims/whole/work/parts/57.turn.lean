theorem b2_u {β : Type} (o : Option (Unit × β)) : b2 o (fun (_ : Unit) m => some ((), m)) = o := by
  cases o with
  | none => rfl
  | some x => rfl
theorem b4_u (o : Option (Unit × Sg × Nat × Nat)) : b4 o (fun (_ : Unit) s k n => some ((), s, 0 + k, 0 + n)) = o := by
  cases o with
  | none => rfl
  | some x =>
    obtain ⟨u, s, k, n⟩ := x
    rw [b4_some, Nat.zero_add, Nat.zero_add]
theorem i64_1 (v : Int64) : (1 ≤ v) ↔ ¬ (v ≤ 0) := by
  rw [Int64.le_iff_toInt_le, Int64.le_iff_toInt_le, show (1 : Int64).toInt = 1 from by decide, show (0 : Int64).toInt = 0 from by decide]
  omega
theorem i64_2 (v : Int64) : ¬ (v ≤ 0) → 0 < v := by
  rw [Int64.le_iff_toInt_le, Int64.lt_iff_toInt_lt]
  omega
section TURN
variable {d : Dp} {σ τ : Sg} {μ ν : Mu} {x pg mc mk sa ls es : Nat} {Fr Fr' : Nat → Nat} {F N Tn Tm Pn Pm D E f j n o p L K S0 P P' : Nat} {A : Option (Unit × Sg × Nat × Nat)} {B : Option (Unit × Mu)}
theorem PC.le (h : PC d x pg mc mk sa ls es F N Tn Pn S0 P A B) (hP : P ≤ P') : PC d x pg mc mk sa ls es F N Tn Pn S0 P' A B := by
  obtain ⟨τ, ν, k, n, Fr', F', Tm, Pm, D', L', K', h1, h2, h3, h4, h5, h6, h7, h8, h9⟩ := h
  exact ⟨τ, ν, k, n, Fr', F', Tm, Pm, D', L', K', h1, h2, h3, h4, h5, h6, h7, h8, by rcases h9 with q | q; exact Or.inl q; exact Or.inr (by omega)⟩
theorem FA.nd (h : CR d σ μ x pg mc mk sa ls es Fr F N Tn Pn) (a : FA σ μ N es f j n o p) : ∃ b, gp σ 103 f = some b ∧ gc σ b = 5 ∧ gi σ 400 b = nI n ∧ gi σ 401 b = nI o ∧ Nk σ μ N b n ∧ (o ≠ 0 → gi σ 403 b = mI μ 2 (3 * n) ∧ gi σ 404 b = mI μ 2 (3 * n + 1) ∧ gi σ 405 b = mI μ 2 (3 * n + 2)) := by
  obtain ⟨b, hb1, hb2, -⟩ := ce_at_yes h a.1
  obtain ⟨c5, c4, o', ho', c1, c2, -, cp⟩ := id hb2
  have e : o' = o := (nI_eq (by omega) (by have := a.2.2.2.1; omega)).mp (c2.symm.trans a.2.2.2.2.1)
  subst e
  exact ⟨b, a.2.2.1.trans hb1, c5, c4, c1, hb2, fun e => ⟨(cp e).1, (cp e).2.1, (cp e).2.2.1⟩⟩
theorem go_fault (G : GM d σ μ x pg mc mk sa ls es Fr F N Tn Pn D L K S0) (ht : Tn + sc μ D ≤ S0 + K) (a : FA σ μ N es (Fr D) D n o p) {w e : Nat} (h1 : 1 ≤ e) (h8 : e ≤ 8) : PC d x pg mc mk sa ls es F N Tn Pn S0 (ph μ D L) (some ((), fσ σ mc (nI w) (nI e), 0, 0)) (some ((), fμ μ (nI w) (nI e))) := by
  obtain ⟨hC, hD, hD1, hm, hb, hk⟩ := G
  have lo : LO σ (fσ σ mc (nI w) (nI e)) := (LO.rf.si (by decide)).si (by decide)
  have gi' : ∀ g a, g ≠ 211 → g ≠ 212 → gi (fσ σ mc (nI w) (nI e)) g a = gi σ g a := fun g a y1 y2 => by
    unfold fσ
    rw [q_gi_si, if_neg (by omega), q_gi_si, if_neg (by omega)]
  have s : ∀ j, FSm σ (fσ σ mc (nI w) (nI e)) j := fun j => ⟨rfl, gi' _ _ (by decide) (by decide), rfl, rfl, rfl, rfl, rfl⟩
  have e0 : ¬ nI e = 0 := nI_ne0 (by omega) (by omega)
  refine ⟨_, _, 0, 0, Fr, F, Tn, Pn, D, L, K, rfl, rfl, ⟨hC.fail _ _ _ _, hD, hm.up rfl (fun g hg => gi' g mc (by omega) (by omega)) (fun f hf => by rw [fμ_S, if_neg (by omega), if_neg (by omega)]), hb.mo (fun _ _ => rfl) (fun j _ _ => s _) (fun j _ _ => ⟨rfl, rfl, rfl, fun _ _ => rfl⟩) (fun _ => rfl) (fun _ => rfl) (Nat.le_refl _) lo.hg, ?_, Or.inr (Or.inl ⟨⟨e, h1, h8, rfl, by rw [gi' _ _ (by decide) (by decide)]; exact hk.2.1, (fσ_at ..).1, (fσ_at ..).2⟩, fun _ => ⟨n, o, p, a.mo (s _) ⟨rfl, rfl, rfl, fun _ _ => rfl⟩ (fun _ => rfl) (fun _ => rfl)⟩⟩)⟩, by omega, by omega, by omega, by omega, by omega, Or.inr ?_⟩
  · rw [scq_eq (μ := μ) (ν := fμ μ (nI w) (nI e)) (fun _ => rfl) D (fun _ _ _ => ⟨rfl, rfl⟩)]; exact ht
  · rw [ph_eq (μ := μ) (ν := fμ μ (nI w) (nI e)) (fun _ => rfl) (fun _ _ _ => ⟨rfl, rfl⟩), show mS (fμ μ (nI w) (nI e)) 820 = nI e from rfl, if_neg e0]
    unfold ph
    rw [if_pos hk.1]
    omega
theorem tt_work (h3 : gc σ mc = 3) (h0 : gi σ 211 mc = 0) (ht : gp σ 204 mc = some f) {w : Nat} (hw : w < 3) {s4 : Sg} (hn : ex_X1_nextPart d σ mc (some f) = some (nI w, s4)) (h3' : gc s4 mc = 3) (h0' : gi s4 211 mc = 0) : ex_X1_takeTurn d σ mc = ex_X1_workPart d s4 mc (some f) (nI w) := by
  unfold ex_X1_takeTurn
  rw [if_pos h3, if_pos h0, ht, hn]
  simp only [b2_some]
  rw [if_pos h3', if_pos h0', if_neg (by rw [show (3 : Int32) = nI 3 from rfl, nI_eq (by omega) (by omega)]; omega), b4_u]
theorem tt_fin (h3 : gc σ mc = 3) (h0 : gi σ 211 mc = 0) (ht : gp σ 204 mc = some f) {s4 s15 : Sg} {q : Option Nat} {k n' : Nat} (hn : ex_X1_nextPart d σ mc (some f) = some (3, s4)) (h3' : gc s4 mc = 3) (h0' : gi s4 211 mc = 0) (hf : ex_X1_finish d s4 mc (some f) = some (q, s15, k, n')) (h3'' : gc s15 mc = 3) (hc : ex_X1_close d s15 mc (some f) q = some ((), τ)) : ex_X1_takeTurn d σ mc = some ((), τ, k, n') := by
  unfold ex_X1_takeTurn
  rw [if_pos h3, if_pos h0, ht, hn]
  simp only [b2_some]
  rw [if_pos h3', if_pos h0', if_pos trivial, hf]
  simp only [b4_some]
  rw [if_pos h3'', hc]
  simp only [b2_some, Nat.zero_add]
theorem tt_fault (h3 : gc σ mc = 3) (h0 : gi σ 211 mc = 0) (ht : gp σ 204 mc = some f) {s4 : Sg} {r : Int32} (hn : ex_X1_nextPart d σ mc (some f) = some (r, s4)) (h3' : gc s4 mc = 3) (h0' : ¬ gi s4 211 mc = 0) : ex_X1_takeTurn d σ mc = some ((), s4, 0, 0) := by
  unfold ex_X1_takeTurn
  rw [if_pos h3, if_pos h0, ht, hn]
  simp only [b2_some]
  rw [if_pos h3', if_neg h0']
/-- only the top frame has changed -/
theorem GM.top (G : GM d σ μ x pg mc mk sa ls es Fr F N Tn Pn (D + 1) L K S0) (l : LO σ τ) (m : LM μ ν) (s : ∀ j, j ≤ D → FSm σ τ (Fr j)) (u : ∀ j, 1 ≤ j → j ≤ D → USm μ ν j) (t : gp τ 204 mc = gp σ 204 mc) (g : ∀ g, 207 ≤ g → gi τ g mc = gi σ g mc) (k : ∀ f, f = 818 ∨ f = 820 ∨ f = 822 ∨ f = 823 → mS ν f = mS μ f) : GM d τ ν x pg mc mk sa ls es Fr F N Tn Pn (D + 1) L K S0 ∧ sc ν D = sc μ D :=
  ⟨G.up l m (fun j _ h => s j (by omega)) (fun j h1 h => u j h1 (by omega)) t g k, scq_eq m.op D (fun j h1 h => ⟨(u j h1 h).1, (u j h1 h).2.1⟩)⟩
/-- a PART of the top frame is begun -/
theorem go_part (G : GM d σ μ x pg mc mk sa ls es Fr F N Tn Pn (D + 1) L K S0) (hsc : sc μ D + 1 = P) (ht : Tn + P ≤ S0 + K) {wh : Nat} (hn : n < N) (a2 : mI μ 10 (D + 1) = nI n) (a3 : gp σ 103 (Fr (D + 1)) = ap σ es n) (a4 : o ≤ 20) (a5 : mI μ 1 n = nI o) (a6 : p ≤ 3) (a7 : mI μ 11 (D + 1) = nI p) (hp : 1 ≤ p) (hw : Wk (si σ 104 (Fr (D + 1)) (nI wh)) μ (Fr (D + 1)) (D + 1) o p) (hv : FW σ μ Tn (Fr (D + 1)) (D + 1) o) (hwh : wh < 3) (hnm : nmd o wh = true) : PC d x pg mc mk sa ls es F N Tn Pn S0 (4 * L + (D + 1) + P + 1) (ex_X1_workPart d σ mc (some (Fr (D + 1))) (nI wh)) (mx_X7_begin μ (nI n) (nI wh)) := by
  have hc := cr_le μ (D + 1)
  have hs : sc μ (D + 1) ≤ P := by rw [sc]; omega
  refine (L_begin G.1 G.2.1 G.2.2.1 G.2.2.2.1 G.2.2.2.2.1 (by omega) G.2.2.2.2.2 hn a2 a3 a4 a5 a6 a7 hp hw hv hwh hnm).le ?_
  unfold ph
  split <;> omega
/-- the top frame is closed -/
theorem go_pop {Tb Pb k n' : Nat} (G : GM d σ μ x pg mc mk sa ls es Fr F N Tn Pn (D + 1) L K S0) (ht : Tn + sc μ D ≤ S0 + K) {q : Option Nat} {r : Int32} (hp : pr σ Tn q r) (hI : ∀ k i, mI ν k i = mI μ k i) (hJ : ∀ k i, mJ ν k i = mJ μ k i) (hS : ∀ f, mS ν f = if f = 818 then nI D else if f = 819 then r else mS μ f) (hT : Tb ≤ Tn) (hPb : Pb ≤ Pn) (hk : k ≤ 2 * (Tn - Tb)) (hn : n' ≤ 7 * (Tn - Tb) + (Pn - Pb)) (hP : 4 * L + D + sc μ D + 2 ≤ P) (hA : ∀ s, ex_X1_close d σ mc (some (Fr (D + 1))) q = some ((), s) → A = some ((), s, k, n')) : PC d x pg mc mk sa ls es F N Tb Pb S0 P A (some ((), ν)) := by
  obtain ⟨τ, h1, h2, h3⟩ := L_pop G ht hp hI hJ hS
  exact ⟨τ, ν, k, n', Fr, F, Tn, Pn, D, L, K, hA τ h1, rfl, h2, by omega, hT, hPb, by omega, by omega, Or.inr (by omega)⟩
theorem fin_latest {b : Nat} (hfa : gc σ f = 2) (hn : gp σ 103 f = some b) (h5 : gc σ b = 5) (hop : gi σ 401 b = nI o) (ho : o = 15 ∨ o = 19 ∨ o = 20) : ex_X1_finish d σ mc (some f) = some (gp σ 108 f, σ, 0, 0) := by
  rcases ho with rfl | rfl | rfl
  · (unfold ex_X1_finish; simp only [Option.bind_some, hn]; rw [if_pos hfa, if_pos h5, hop, if_neg (by decide), if_neg (by decide), if_neg (by decide), if_neg (by decide), if_neg (by decide), if_neg (by decide), if_neg (by decide), if_neg (by decide), if_neg (by decide), if_neg (by decide), if_neg (by decide), if_neg (by decide), if_neg (by decide), if_neg (by decide), if_neg (by decide)])
  · (unfold ex_X1_finish; simp only [Option.bind_some, hn]; rw [if_pos hfa, if_pos h5, hop, if_neg (by decide), if_neg (by decide), if_neg (by decide), if_neg (by decide), if_neg (by decide), if_neg (by decide), if_neg (by decide), if_neg (by decide), if_neg (by decide), if_neg (by decide), if_neg (by decide), if_neg (by decide), if_neg (by decide), if_neg (by decide), if_neg (by decide)])
  · (unfold ex_X1_finish; simp only [Option.bind_some, hn]; rw [if_pos hfa, if_pos h5, hop, if_neg (by decide), if_neg (by decide), if_neg (by decide), if_neg (by decide), if_neg (by decide), if_neg (by decide), if_neg (by decide), if_neg (by decide), if_neg (by decide), if_neg (by decide), if_neg (by decide), if_neg (by decide), if_neg (by decide), if_neg (by decide), if_neg (by decide)])
theorem mx_part0_ev (hd : mS μ 818 = nI D) (h2 : D ≤ 200) (n : Int32) : mx_X7_part0 μ n = mx_X7_begin (uI μ 11 D 1) n 0 := by
  unfold mx_X7_part0
  rw [hd, if_pos (nI_bd (by omega) (by omega)), nI_clamp (by omega), bm_eq, b2_u]
theorem top_u {k i : Nat} {v : Int32} (hk : k = 11 ∨ (k = 12 ∧ 3 * D ≤ i)) (hi : k = 11 → i = D + 1) (h1 : 1 ≤ j) (hj : j ≤ D) : USm μ (uI μ k i v) j := by
  refine ⟨?_, ?_, rfl, fun i' hi' => ?_⟩
  · rw [q_mI_uI, if_neg (by omega)]
  · rw [q_mI_uI, if_neg (by omega)]
  · rw [q_mI_uI, if_neg (by omega)]
end TURN
