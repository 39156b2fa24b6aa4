section LIST
variable {d : Dp} {σ τ ρ : Sg} {μ ν : Mu} {x pg mc mk sa ls es es' : Nat} {Fr Fr' : Nat → Nat} {F N N' Tn Tm Pn Pm : Nat}
/-- what a PART comes to -/
def pv (N o w : Nat) (v : Int32) : Int32 := if nmd o w = true ∧ (v < 0 ∨ nI N ≤ v) then -1 else v
theorem pv_no {o w : Nat} {v : Int32} (h : nmd o w = true) (hv : v < 0 ∨ nI N ≤ v) : pv N o w v = -1 := if_pos ⟨h, hv⟩
theorem pv_in {o w : Nat} {v : Int32} (hv : ¬ (v < 0 ∨ nI N ≤ v)) : pv N o w v = v := if_neg (fun q => hv q.2)
theorem pv_nn {o w : Nat} {v : Int32} (h : ¬ nmd o w = true) : pv N o w v = v := if_neg (fun q => h q.1)
theorem pv_ok (hN : N ≤ 512) (o w : Nat) (v : Int32) (h : nmd o w = true) : pv N o w v = -1 ∨ ∃ j, j < N ∧ pv N o w v = nI j := by
  rcases pk_ix v (n := N) (by omega) with q | q | ⟨j, hj, q⟩
  · exact Or.inl (pv_no h (Or.inl q))
  · exact Or.inl (pv_no h (Or.inr q))
  · refine Or.inr ⟨j, hj, ?_⟩
    rw [pv_in, q]
    rw [q]
    intro z
    rcases z with z | z
    · exact nI_nl (by omega) z
    · rw [nI_leI (by omega) (by omega)] at z
      omega
theorem ce_set {b w : Nat} (h5 : gc σ b = 5) (hw : w < 3) (v : Int32) : ex_X3_set d σ b (nI w) v = some ((), si σ (403 + w) b v) := by
  unfold ex_X3_set
  rcases (show w = 0 ∨ w = 1 ∨ w = 2 by omega) with rfl | rfl | rfl
  · rw [if_pos (by decide), if_pos h5]
  · rw [if_neg (by decide), if_pos (by decide), if_pos h5]
  · rw [if_neg (by decide), if_neg (by decide), if_pos h5]
theorem ce_setPart (h : CR d σ μ x pg mc mk sa ls es Fr F N Tn Pn) {b o w : Nat} (h5 : gc σ b = 5) (ho : gi σ 401 b = nI o) (ho2 : o ≤ 20) (hw : w < 3) (v : Int32) : ex_X4_setPart d σ pg (some b) (nI w) v = some ((), si σ (403 + w) b (pv N o w v)) := by
  have c3 : gc σ pg = 6 := h.1.2.2.1
  have hN : N ≤ 512 := h.2.2.2.1.1
  unfold ex_X4_setPart
  simp only [Option.bind_some]
  rw [if_pos h5, ce_works h5 ho ho2 hw, b2_some]
  by_cases k : nmd o w = true
  · rw [if_pos k, if_neg (by decide), if_pos c3]
    rcases pk_ix v (n := N) (by omega) with q | q | ⟨j, hj, q⟩
    · rw [ce_at_no h (Or.inl q), b2_some, if_pos (by trivial), if_neg (by decide), if_pos h5, ce_set h5 hw, b2_some, pv_no k (Or.inl q)]
    · rw [ce_at_no h (Or.inr q), b2_some, if_pos (by trivial), if_neg (by decide), if_pos h5, ce_set h5 hw, b2_some, pv_no k (Or.inr q)]
    · obtain ⟨b', -, -, e⟩ := ce_at_yes h hj
      rw [q, e, b2_some, if_neg (by simp), if_pos (by trivial), if_pos h5, ce_set h5 hw, b2_some, pv_in]
      intro z
      rcases z with z | z
      · exact nI_nl (by omega) z
      · rw [nI_leI (by omega) (by omega)] at z
        omega
  · rw [if_neg k, if_pos (by trivial), if_pos (by trivial), if_pos h5, ce_set h5 hw, b2_some, pv_nn k]
theorem mx_join_ev (μ : Mu) {n w o N : Nat} (hn : n < 4000) (hw : w < 3) (ho : o ≤ 20) (h1 : mI μ 1 n = nI o) (h2 : ∀ o, o ≤ 20 → mI μ 0 o = nI (nmT.getD o 0)) (h8 : mS μ 804 = nI N) (v : Int32) : mx_X7_join μ (nI n) (nI w) v = some ((), uI μ 2 (3 * n + w) (pv N o w v)) := by
  have hb : ¬ (nI (3 * n + w) < 0 ∨ 12000 ≤ (nI (3 * n + w)).toNatClampNeg) := nI_bd (n := 12000) (by omega) (by omega)
  have hc : (nI (3 * n + w)).toNatClampNeg = 3 * n + w := nI_clamp (by omega)
  unfold mx_X7_join
  rw [mx_isNode_ev μ hn hw ho h1 h2, b2_some, i3, if_pos hb, if_pos hb, hc]
  simp only [bm_eq]
  by_cases k : nmd o w = true
  · rw [if_pos k, if_neg (by decide)]
    by_cases z : v < 0
    · rw [if_pos z, pv_no k (Or.inl z)]
    · rw [if_neg z, h8]
      by_cases y : v < nI N
      · rw [if_pos y, pv_in]
        intro q
        rcases q with q | q
        · exact z q
        · exact absurd y (Int32.not_lt.mpr q)
      · rw [if_neg y, pv_no k (Or.inr (Int32.not_lt.mp y))]
  · rw [if_neg k, if_pos (by trivial), pv_nn k]
theorem GN.set (g : GN d σ μ N ls es) {i w b : Nat} (hi : i < N) (hw : w < 3) (hb : ap σ es i = some b) (hk : Nk σ μ N b i) (v : Int32) (hv : ∀ o, gi σ 401 b = nI o → o ≤ 20 → nmd o w = true → v = -1 ∨ ∃ j, j < N ∧ v = nI j) : GN d (si σ (403 + w) b v) (uI μ 2 (3 * i + w) v) N ls es := by
  obtain ⟨h1, h2, h3, h4, h5, h6, h7⟩ := g
  refine ⟨h1, h2, by rw [q_gi_si, if_neg (by omega)]; exact h3, h4, h5, fun k hk' => ?_, fun o ho => by rw [q_mI_uI, if_neg (by omega)]; exact h7 o ho⟩
  obtain ⟨b', hb', n1, n2, o, n3, n4, n5, n6, n7⟩ := h6 k hk'
  refine ⟨b', hb', n1, by rw [q_gi_si, if_neg (by omega)]; exact n2, o, n3, by rw [q_gi_si, if_neg (by omega)]; exact n4, by rw [q_mI_uI, if_neg (by omega)]; exact n5, n6, fun e => ?_⟩
  obtain ⟨m1, m2, m3, m4⟩ := n7 e
  by_cases ki : k = i
  · subst ki
    have eb : b' = b := by rw [hb] at hb'; exact (Option.some.inj hb').symm
    subst eb
    have P : ∀ u, u < 3 → gi σ (403 + u) b' = mI μ 2 (3 * k + u) := fun u hu => by
      rcases (show u = 0 ∨ u = 1 ∨ u = 2 by omega) with rfl | rfl | rfl
      · exact m1
      · exact m2
      · exact m3
    have Q : ∀ u, u < 3 → gi (si σ (403 + w) b' v) (403 + u) b' = mI (uI μ 2 (3 * k + w) v) 2 (3 * k + u) := fun u hu => by
      rw [q_gi_si, q_mI_uI]
      by_cases q : u = w
      · rw [if_pos ⟨by omega, rfl⟩, if_pos ⟨rfl, by omega⟩]
      · rw [if_neg (by omega), if_neg (by omega)]
        exact P u hu
    refine ⟨Q 0 (by omega), Q 1 (by omega), Q 2 (by omega), fun u hu hn => ?_⟩
    rw [q_mI_uI]
    by_cases q : u = w
    · rw [if_pos ⟨rfl, by omega⟩]
      exact hv o n4 n3 (q ▸ hn)
    · rw [if_neg (by omega)]
      exact m4 u hu hn
  · have nb : b' ≠ b := fun q => by
      subst q
      exact ki ((nI_eq (by omega) (by omega)).mp (n2.symm.trans hk.2.1))
    refine ⟨?_, ?_, ?_, fun u hu hn => ?_⟩
    · rw [q_gi_si, if_neg (fun q => nb q.2), q_mI_uI, if_neg (by omega)]; exact m1
    · rw [q_gi_si, if_neg (fun q => nb q.2), q_mI_uI, if_neg (by omega)]; exact m2
    · rw [q_gi_si, if_neg (fun q => nb q.2), q_mI_uI, if_neg (by omega)]; exact m3
    · rw [q_mI_uI, if_neg (by omega)]; exact m4 u hu hn
theorem p2_in {p : Int32} (h : ¬ p < 0) (h3 : p ≤ 2) : ∃ w, w < 3 ∧ p = nI w := by
  obtain ⟨i, hi, rfl⟩ := nI_of h
  rw [show (2 : Int32) = nI 2 from rfl, nI_leI hi (by omega)] at h3
  exact ⟨i, by omega, rfl⟩
theorem op_part (I : ID d σ μ x pg mc mk sa ls es Fr F N Tn Pn) (p1 p2 p3 : Int32) : ∃ r τ ν, ex_X6_part d σ x p1 p2 p3 = some (r, τ) ∧ mx_X7_part μ p1 p2 p3 = some (r, ν) ∧ ID d τ ν x pg mc mk sa ls es Fr F N Tn Pn := by
  have h := I.1
  obtain ⟨c1, c2, c3, c4, c5, c6, c7, c8, c9, c10, c11, c12, c13, c14⟩ := h.1
  obtain ⟨n1, n2, n3, n4, n5, n6, n7⟩ := h.2.2.2.1
  have no : (p1 < 0 ∨ nI N ≤ p1) → ∃ r τ ν, ex_X6_part d σ x p1 p2 p3 = some (r, τ) ∧ mx_X7_part μ p1 p2 p3 = some (r, ν) ∧ ID d τ ν x pg mc mk sa ls es Fr F N Tn Pn := fun q => by
    refine ⟨-1, σ, μ, ?_, ?_, I⟩
    · unfold ex_X6_part
      rw [if_pos c1, c8]
      simp only [Option.bind_some]
      rw [if_pos c3, ce_at_no h q, b2_some, if_pos (by trivial)]
    · unfold mx_X7_part
      by_cases z : p1 < 0
      · rw [if_pos z]
      · rw [if_neg z, n2, if_pos (by rcases q with q | q; exact absurd q z; exact q)]
  rcases pk_ix p1 (n := N) (by omega) with q | q | ⟨i, hi, q⟩
  · exact no (Or.inl q)
  · exact no (Or.inr q)
  · subst q
    obtain ⟨b, hb, hk, e⟩ := ce_at_yes h hi
    have A : ∀ r τ, (if p2 < (0 : Int32) then some ((-1 : Int32), σ) else (if p2 ≤ (2 : Int32) then (b2 (ex_X4_setPart d σ pg (some b) p2 p3) fun r17 s16 => some ((0 : Int32), s16)) else some ((-1 : Int32), σ))) = some (r, τ) → ex_X6_part d σ x (nI i) p2 p3 = some (r, τ) := fun r τ hr => by
      unfold ex_X6_part
      rw [if_pos c1, c8]
      simp only [Option.bind_some]
      rw [if_pos c3, e, b2_some, if_neg (by simp), if_pos c1, c8]
      simp only [Option.bind_some]
      rw [if_pos c3]
      exact hr
    have B1 : ¬ nI i < 0 := nI_nl (by omega)
    have B2 : ¬ mS μ 804 ≤ nI i := by rw [n2, nI_leI (by omega) (by omega)]; omega
    unfold mx_X7_part
    rw [if_neg B1, if_neg B2]
    by_cases w0 : p2 < 0
    · exact ⟨-1, σ, μ, A _ _ (by rw [if_pos w0]), by rw [if_pos w0], I⟩
    · by_cases w2 : p2 ≤ 2
      · obtain ⟨w, hw, rfl⟩ := p2_in w0 w2
        obtain ⟨k1, k2, o, k3, k4, k5, k6⟩ := id hk
        refine ⟨0, si σ (403 + w) b (pv N o w p3), uI μ 2 (3 * i + w) (pv N o w p3), A _ _ ?_, ?_, ?_⟩
        · rw [if_neg w0, if_pos w2, ce_setPart h k1 k4 k3 hw, b2_some]
        · rw [if_neg w0, if_pos w2, mx_join_ev μ (by omega) hw k3 k5 n7 n2, b2_some]
        · refine I.gn ((AgP.rf h.2.1).si (by omega)) ⟨rfl, rfl, fun _ => ⟨by rw [q_mI_uI, if_neg (by omega)], by rw [q_mI_uI, if_neg (by omega)], by rw [q_mI_uI, if_neg (by omega)], by rw [q_mI_uI, if_neg (by omega)], rfl⟩⟩ ⟨fun _ => by rw [q_mI_uI, if_neg (by omega)], rfl, rfl⟩ (fun _ _ => rfl) (GN.set h.2.2.2.1 hi hw hb hk _ (fun o' e1 e2 e3 => ?_))
          have : o' = o := (nI_eq (by omega) (by omega)).mp (e1.symm.trans k4)
          subst this
          exact pv_ok n1 _ _ _ e3
      · exact ⟨-1, σ, μ, A _ _ (by rw [if_neg w0, if_neg w2]), by rw [if_neg w0, if_neg w2], I⟩
/-- NODES stand as they were -/
def KN (σ τ : Sg) : Prop := ∀ a, gc σ a = 5 → gc τ a = 5 ∧ (∀ f, gi τ f a = gi σ f a) ∧ (∀ f, gj τ f a = gj σ f a)
theorem GN.add (g : GN d σ μ N ls es) (hN : N < 512) (k : KN σ τ) {b : Nat} (m0 : ∀ i, mI ν 0 i = mI μ 0 i) (m1 : ∀ i, i < N → mI ν 1 i = mI μ 1 i) (m2 : ∀ i, i < 3 * N → mI ν 2 i = mI μ 2 i) (m3 : ∀ i, i < N → mJ ν 3 i = mJ μ 3 i) (s : mS ν 804 = nI (N + 1)) (l2 : gi τ 2 ls = nI (N + 1)) (l1 : gp τ 1 ls = some es') (e1 : gc τ es' = 13) (e2 : N + 1 ≤ gl τ es') (e3 : 10 ≤ gl τ es') (e4 : gl τ es' ≤ 800) (old : ∀ i, i < N → ap τ es' i = ap σ es i) (new : ap τ es' N = some b) (nk : Nk τ ν (N + 1) b N) : GN d τ ν (N + 1) ls es' := by
  obtain ⟨h1, h2, h3, h4, h5, h6, h7⟩ := g
  refine ⟨by omega, s, l2, l1, Or.inl ⟨e1, e2, e3, e4⟩, fun i hi => ?_, fun o ho => by rw [m0]; exact h7 o ho⟩
  by_cases e : i = N
  · subst e
    exact ⟨b, new, nk⟩
  · have hi' : i < N := by omega
    obtain ⟨b', hb, n1, n2, o, n3, n4, n5, n6, n7⟩ := h6 i hi'
    obtain ⟨k1, k2, k3⟩ := k b' n1
    refine ⟨b', (old i hi').trans hb, k1, by rw [k2]; exact n2, o, n3, by rw [k2]; exact n4, by rw [m1 i hi']; exact n5, fun q => by rw [k3, m3 i hi']; exact n6 q, fun q => ?_⟩
    obtain ⟨f1, f2, f3, f4⟩ := n7 q
    rw [k2, k2, k2, m2 _ (by omega), m2 _ (by omega), m2 _ (by omega)]
    refine ⟨f1, f2, f3, fun w hw hn => ?_⟩
    rw [m2 _ (by omega)]
    rcases f4 w hw hn with z | ⟨j, hj, z⟩
    · exact Or.inl z
    · exact Or.inr ⟨j, by omega, z⟩
/-- what adding to the list comes to -/
def LA (ρ : Sg) (ls es b N : Nat) (A : Option (Unit × Sg × Nat × Nat)) : Prop := ∃ τ es' k n, A = some ((), τ, k, n) ∧ k ≤ 1 ∧ n ≤ 800 ∧ AgP ρ τ ∧ KN ρ τ ∧ gi τ 2 ls = nI (N + 1) ∧ gp τ 1 ls = some es' ∧ gc τ es' = 13 ∧ N + 1 ≤ gl τ es' ∧ 10 ≤ gl τ es' ∧ gl τ es' ≤ 800 ∧ (∀ i, i < N → ap τ es' i = ap ρ es i) ∧ ap τ es' N = some b
theorem la_fit {b : Nat} (hZ : GZ ρ) (c5 : gc ρ ls = 1) (n4 : gp ρ 1 ls = some es) (h13 : gc ρ es = 13) (hl : N < gl ρ es) (h10 : 10 ≤ gl ρ es) (h800 : gl ρ es ≤ 800) (h5 : gc ρ b = 5) : LA ρ ls es b N (ex_Jx4a65c_add_72be8 d ρ ls (some b) (some es) (nI N)) := by
  refine ⟨si (wp ρ es N (some b)) 2 ls (nI (N + 1)), es, 0, 0, ?_, by omega, by omega, ((AgP.rf hZ).wp (by omega)).si (by omega), ?_, ?_, n4, h13, hl, h10, h800, ?_, ?_⟩
  · unfold ex_Jx4a65c_add_72be8
    simp only [Option.bind_some]
    rw [if_pos ⟨by omega, Or.inl h13⟩, if_neg (show ¬ nI N = Int32.ofNat (gl ρ es) from by show ¬ nI N = nI (gl ρ es); rw [nI_eq (by omega) (by omega)]; omega), if_pos h13, if_pos (by rw [nI_clamp (by omega)]; intro q; rcases q with q | q; exact nI_nl (by omega) q; omega), if_pos h5, if_pos c5, nI_clamp (by omega), nI_1]
  · exact fun a ha => ⟨ha, fun f => by rw [q_gi_si, if_neg (fun q => by rw [q.2] at ha; omega)]; rfl, fun _ => rfl⟩
  · rw [q_gi_si, if_pos ⟨rfl, rfl⟩]
  · intro i hi
    rw [q_ap_si, q_ap_wp, if_neg (by omega)]
  · rw [q_ap_si, q_ap_wp, if_pos ⟨rfl, rfl⟩]
/-- a list's next array, b laid at place N -/
theorem la_end {s : Sg} {b e M k n : Nat} (c5 : gc ρ ls = 1) (p : AgP ρ s) (kn : KN ρ s) (hp : gp s 1 ls = some e) (h13 : gc s e = 13) (hM : gl s e = M) (hN : N < M) (h10 : 10 ≤ M) (h800 : M ≤ 800) (old : ∀ i, i < N → ap s e i = ap ρ es i) (h5 : gc ρ b = 5) (hk : k ≤ 1) (hn : n ≤ 800) (A : Option (Unit × Sg × Nat × Nat)) (hA : A = (Option.bind (some e) fun a17 => (if gc s a17 = 13 then (if ¬ (nI N < 0 ∨ gl s a17 ≤ Int32.toNatClampNeg (nI N)) then (Option.bind (some b) fun a21 => (if gc s a21 = 5 then (if gc s ls = 1 then some ((), (si (wp s a17 (Int32.toNatClampNeg (nI N)) (some b)) 2 ls (nI N + (1 : Int32))), 0 + k, 0 + n) else none) else none)) else none) else none))) : LA ρ ls es b N A := by
  have s1 : gc s ls = 1 := by rw [(p.2.1 ls (by omega)).1]; exact c5
  have s5 : gc s b = 5 := (kn b h5).1
  refine ⟨si (wp s e N (some b)) 2 ls (nI (N + 1)), e, 0 + k, 0 + n, ?_, by omega, by omega, (p.wp (by omega)).si (by omega), ?_, ?_, hp, h13, by show N + 1 ≤ gl s e; omega, by show 10 ≤ gl s e; omega, by show gl s e ≤ 800; omega, ?_, ?_⟩
  · rw [hA]
    simp only [Option.bind_some]
    rw [if_pos h13, if_pos (by rw [nI_clamp (by omega), hM]; intro q; rcases q with q | q; exact nI_nl (by omega) q; omega), if_pos s5, if_pos s1, nI_clamp (by omega), nI_1]
  · intro a ha
    obtain ⟨k1, k2, k3⟩ := kn a ha
    exact ⟨k1, fun f => by rw [q_gi_si, if_neg (fun q => by rw [q.2] at ha; omega)]; exact k2 f, k3⟩
  · rw [q_gi_si, if_pos ⟨rfl, rfl⟩]
  · intro i hi
    rw [q_ap_si, q_ap_wp, if_neg (by omega)]
    exact old i hi
  · rw [q_ap_si, q_ap_wp, if_pos ⟨rfl, rfl⟩]
theorem la_new {b : Nat} (hZ : GZ ρ) (c5 : gc ρ ls = 1) (n3 : gi ρ 2 ls = nI 0) (n4 : gp ρ 1 ls = some (dfl d)) (h14 : gc ρ (dfl d) = 14) (hl : gl ρ (dfl d) = 0) (h5 : gc ρ b = 5) : LA ρ ls (dfl d) b 0 (ex_Jx4a65c_add_72be8 d ρ ls (some b) (some (dfl d)) (nI 0)) := by
  have nl : ls ≠ hs ρ := hZ.ne (by omega)
  have e92 : ex_Jx4a65c_grow_92f84 d ρ ls (nI 1) = some (some (hs ρ), sp (na ρ 13 10) 1 ls (some (hs ρ)), 0 + 1, 0 + 10) := by
    unfold ex_Jx4a65c_grow_92f84
    rw [if_pos c5, n4]
    simp only [Option.bind_some]
    rw [if_pos ⟨by omega, Or.inr h14⟩, if_neg (by rw [hl]; decide), if_pos (by trivial), show (if (10 : Int32) < nI 1 then nI 1 else (10 : Int32)) = 10 from if_neg (by decide), if_pos (by decide), if_pos (by decide), show Int32.toNatClampNeg 10 = 10 from by decide, if_pos (by rw [q_gc_na, if_neg nl]; exact c5)]
  refine la_end (s := sp (na ρ 13 10) 1 ls (some (hs ρ))) (e := hs ρ) (M := 10) (k := 0 + (0 + 1)) (n := 0 + (0 + 10)) c5 (((AgP.rf hZ).na (by omega)).sp (by omega)) (fun a ha => ⟨?_, fun _ => rfl, fun _ => rfl⟩) (by rw [q_gp_sp, if_pos ⟨rfl, rfl⟩]) (by rw [q_gc_sp, q_gc_na, if_pos rfl]) (by rw [q_gl_sp, q_gl_na, if_pos rfl]) (by omega) (by omega) (by omega) (fun i hi => by omega) h5 (by omega) (by omega) _ ?_
  · rw [q_gc_sp, q_gc_na, if_neg (hZ.ne (by omega))]
    exact ha
  · unfold ex_Jx4a65c_add_72be8
    rw [Option.bind_some, if_pos ⟨by omega, Or.inr h14⟩, if_pos (show nI 0 = Int32.ofNat (gl ρ (dfl d)) by rw [hl]; rfl), if_pos c5]
    unfold ex_Jx4a65c_grow_d5877
    rw [if_pos c5, n3, nI_1, e92, b4_some, b4_some]
theorem la_grow {b : Nat} (hZ : GZ ρ) (c5 : gc ρ ls = 1) (n3 : gi ρ 2 ls = nI N) (n4 : gp ρ 1 ls = some es) (h13 : gc ρ es = 13) (hl : gl ρ es = N) (h10 : 10 ≤ N) (hN : N < 512) (nd : ∀ i, i < N → ∃ c, ap ρ es i = some c ∧ gc ρ c = 5) (h5 : gc ρ b = 5) : LA ρ ls es b N (ex_Jx4a65c_add_72be8 d ρ ls (some b) (some es) (nI N)) := by
  have nl : ls ≠ hs ρ := hZ.ne (by omega)
  have ne : es ≠ hs ρ := hZ.ne (by omega)
  have hl' : Int32.ofNat (gl ρ es) = nI N := by rw [hl]; rfl
  have eNL : ex_J8_newLength_cabcc d ρ (nI N) (nI (N + 1) - nI N) (nI N >>> ((1 : Int32) &&& 31)) = some (nI (N + N / 2), ρ, 0, 0) := by
    unfold ex_J8_newLength_cabcc
    rw [pk_sub (by omega), pk_shrN (by omega) _ 1 (by decide), if_pos (show nI (N + 1 - N) < nI (N / 2 ^ 1) by rw [nI_ltI (by omega) (by omega)]; omega), nI_add, if_neg (by rw [show (0 : Int32) = nI 0 from rfl, nI_leI (by omega) (by omega)]; omega), if_neg (by rw [show (2147483639 : Int32) = nI 2147483639 from rfl, nI_ltI (by omega) (by omega)]; omega)]
  have g1 : gc (na ρ 13 (N + N / 2)) es = 13 := by rw [q_gc_na, if_neg ne]; exact h13
  have g2 : gl (na ρ 13 (N + N / 2)) es = N := by rw [q_gl_na, if_neg ne]; exact hl
  have g3 : gl (na ρ 13 (N + N / 2)) (hs ρ) = N + N / 2 := by rw [q_gl_na, if_pos rfl]
  have g4 : ∀ i, ap (na ρ 13 (N + N / 2)) es i = ap ρ es i := fun i => by rw [q_ap_na, if_neg ne]
  have eCP : ex_J7_copyOf_6403c d ρ (some es) (nI (N + N / 2)) (some (mir d)) = some (some (hs ρ), wr (na ρ 13 (N + N / 2)) (hs ρ) (va_cpy (ap (na ρ 13 (N + N / 2)) es) (ap (na ρ 13 (N + N / 2)) (hs ρ)) 0 0 N), 0 + 1, 0 + (N + N / 2)) := by
    unfold ex_J7_copyOf_6403c
    rw [if_pos rfl, if_pos (nI_nl (by omega)), nI_clamp (by omega), if_pos (by omega), Option.bind_some, if_pos ⟨by omega, Or.inl g1⟩, if_pos g1, g2, g3, if_neg (show ¬ nI (N + N / 2) < Int32.ofNat N from by show ¬ nI (N + N / 2) < nI N; rw [nI_ltI (by omega) (by omega)]; omega), show Int32.ofNat N = nI N from rfl, if_pos (nI_nl (by omega)), nI_clamp (by omega), if_pos ⟨by omega, by omega⟩, if_pos ?_]
    intro i hi
    obtain ⟨c, hc, h5c⟩ := nd i hi
    rw [g4, hc]
    refine Or.inr ?_
    rw [Option.getD_some, q_gc_na, if_neg (hZ.ne (by omega))]
    exact h5c
  have e92 : ex_Jx4a65c_grow_92f84 d ρ ls (nI (N + 1)) = some (some (hs ρ), sp (wr (na ρ 13 (N + N / 2)) (hs ρ) (va_cpy (ap (na ρ 13 (N + N / 2)) es) (ap (na ρ 13 (N + N / 2)) (hs ρ)) 0 0 N)) 1 ls (some (hs ρ)), 0 + 0 + (0 + (0 + 1)), 0 + 0 + (0 + (0 + (N + N / 2)))) := by
    unfold ex_Jx4a65c_grow_92f84
    rw [if_pos c5, n4, Option.bind_some, if_pos ⟨by omega, Or.inl h13⟩, hl', if_pos (show (0 : Int32) < nI N from by rw [show (0 : Int32) = nI 0 from rfl, nI_ltI (by omega) (by omega)]; omega), eNL, b4_some, if_pos c5, n4]
    unfold ex_J7_copyOf_1904c
    rw [Option.bind_some, if_pos h13, eCP, b4_some, b4_some, if_pos (by rw [q_gc_wr, q_gc_na, if_neg nl]; exact c5)]
  refine la_end (s := sp (wr (na ρ 13 (N + N / 2)) (hs ρ) (va_cpy (ap (na ρ 13 (N + N / 2)) es) (ap (na ρ 13 (N + N / 2)) (hs ρ)) 0 0 N)) 1 ls (some (hs ρ))) (e := hs ρ) (M := N + N / 2) (k := 0 + (0 + 0 + (0 + (0 + 1)))) (n := 0 + (0 + 0 + (0 + (0 + (N + N / 2))))) c5 ((((AgP.rf hZ).na (by omega)).wr (by rw [q_gc_na, if_pos rfl]; omega)).sp (by omega)) (fun a ha => ⟨?_, fun _ => rfl, fun _ => rfl⟩) (by rw [q_gp_sp, if_pos ⟨rfl, rfl⟩]) (by rw [q_gc_sp, q_gc_wr, q_gc_na, if_pos rfl]) (by rw [q_gl_sp, q_gl_wr]; exact g3) (by omega) (by omega) (by omega) (fun i hi => ?_) h5 (by omega) (by omega) _ ?_
  · rw [q_gc_sp, q_gc_wr, q_gc_na, if_neg (hZ.ne (by omega))]
    exact ha
  · rw [q_ap_sp, q_ap_wr, if_pos rfl, pk_cpy_in (by omega) (by omega), g4]
    congr 1
    omega
  · unfold ex_Jx4a65c_add_72be8
    rw [Option.bind_some, if_pos ⟨by omega, Or.inl h13⟩, if_pos hl'.symm, if_pos c5]
    unfold ex_Jx4a65c_grow_d5877
    rw [if_pos c5, n3, nI_1, e92, b4_some, b4_some]
theorem la_all (h : CR d ρ μ x pg mc mk sa ls es Fr F N Tn Pn) (hN : N < 512) {b : Nat} (h5 : gc ρ b = 5) : LA ρ ls es b N (ex_Jx4a65c_add_72be8 d ρ ls (some b) (some es) (nI N)) := by
  have c5 : gc ρ ls = 1 := h.1.2.2.2.2.1
  obtain ⟨n1, n2, n3, n4, n5, n6, n7⟩ := h.2.2.2.1
  rcases n5 with ⟨k1, k2, k3, k4⟩ | ⟨k1, k2, k3, k4⟩
  · by_cases e : N = gl ρ es
    · exact la_grow h.2.1 c5 n3 n4 k1 e.symm (by omega) hN (fun i hi => by obtain ⟨c, hc, hk⟩ := n6 i hi; exact ⟨c, hc, hk.1⟩) h5
    · exact la_fit h.2.1 c5 n4 k1 (by omega) k3 k4 h5
  · subst k1
    subst k2
    exact la_new h.2.1 c5 n3 n4 k3 k4 h5
theorem ce_append (h : CR d ρ μ x pg mc mk sa ls es Fr F N Tn Pn) (hN : N < 512) {b : Nat} (h5 : gc ρ b = 5) (h4 : gi ρ 400 b = nI N) : ∃ τ es' k n, ex_X4_append d ρ pg (some b) = some (nI N, τ, k, n) ∧ k ≤ 1 ∧ n ≤ 800 ∧ AgP ρ τ ∧ KN ρ τ ∧ gi τ 2 ls = nI (N + 1) ∧ gp τ 1 ls = some es' ∧ gc τ es' = 13 ∧ N + 1 ≤ gl τ es' ∧ 10 ≤ gl τ es' ∧ gl τ es' ≤ 800 ∧ (∀ i, i < N → ap τ es' i = ap ρ es i) ∧ ap τ es' N = some b := by
  have c3 : gc ρ pg = 6 := h.1.2.2.1
  have c5 : gc ρ ls = 1 := h.1.2.2.2.2.1
  have c14 : gp ρ 500 pg = some ls := h.1.2.2.2.2.2.2.2.2.2.2.2.2.2
  obtain ⟨n1, n2, n3, n4, n5, n6, n7⟩ := h.2.2.2.1
  have p0 : AgP ρ (si ρ 0 ls (gi ρ 0 ls + 1)) := (AgP.rf h.2.1).si (by omega)
  have k0 : KN ρ (si ρ 0 ls (gi ρ 0 ls + 1)) := fun a ha => ⟨ha, fun f => by rw [q_gi_si, if_neg (fun q => by rw [q.2] at ha; omega)], fun _ => rfl⟩
  have h0 : CR d (si ρ 0 ls (gi ρ 0 ls + 1)) μ x pg mc mk sa ls es Fr F N Tn Pn := h.ag (AgO.si h.2.1 (by decide)) p0.t (p0.s h.1.2.1 h.1.2.2.2.1 h.1.2.2.2.2.2.1) ⟨rfl, fun _ => ⟨rfl, rfl, rfl, rfl⟩⟩ ⟨rfl, rfl, fun _ => ⟨rfl, rfl, rfl, rfl, rfl⟩⟩ ⟨fun _ => rfl, rfl, rfl⟩
  have a0 : ∀ i, ap (si ρ 0 ls (gi ρ 0 ls + 1)) es i = ap ρ es i := fun _ => rfl
  obtain ⟨τ, es', k, n, e, hk, hn, p, kn, l2, l1, e1, e2, e3, e4, old, new⟩ := la_all h0 hN (b := b) h5
  obtain ⟨t1, t2, t3⟩ := kn b (k0 b h5).1
  refine ⟨τ, es', 0 + (0 + k), 0 + (0 + n), ?_, by omega, by omega, p0.tr p, fun a ha => ?_, l2, l1, e1, e2, e3, e4, fun i hi => (old i hi).trans (a0 i), new⟩
  · unfold ex_X4_append
    rw [if_pos c3, c14, Option.bind_some, if_pos c5]
    unfold ex_Jx4a65c_add_9ea2d
    rw [if_pos c5, n4, n3, e, b4_some, b4_some, Option.bind_some, if_pos t1, t2, (k0 b h5).2.1, h4]
  · obtain ⟨q1, q2, q3⟩ := k0 a ha
    obtain ⟨r1, r2, r3⟩ := kn a q1
    exact ⟨r1, fun f => (r2 f).trans (q2 f), fun f => (r3 f).trans (q3 f)⟩
/-- a NODE at the heap's end -/
def ND (σ ρ : Sg) : Prop := AgO σ ρ ∧ AgP σ ρ ∧ KN σ ρ ∧ gc ρ (hs σ) = 5 ∧ ∀ i a, gc σ a ≠ 0 → ap ρ a i = ap σ a i
theorem ND.nw (h : GZ σ) : ND σ (nw σ 5) := ⟨AgO.nw h, (AgP.rf h).nw (by omega), fun a ha => ⟨by rw [q_gc_nw, if_neg (h.ne (by omega))]; exact ha, fun f => by rw [q_gi_nw, if_neg (h.ne (by omega))], fun f => by rw [q_gj_nw, if_neg (h.ne (by omega))]⟩, by rw [q_gc_nw, if_pos rfl], fun _ _ _ => rfl⟩
theorem ND.si (h : GZ σ) (n : ND σ ρ) {f : Nat} {v : Int32} (hf : 400 ≤ f ∧ f < 500) : ND σ (si ρ f (hs σ) v) := by
  obtain ⟨⟨o1, o2, o3, o4, o5, o6⟩, n2, n3, n4, n5⟩ := n
  refine ⟨⟨o1, o2, fun a g ha hg => ?_, o4, o5, o6⟩, n2.si (by omega), fun a ha => ⟨(n3 a ha).1, fun g => ?_, (n3 a ha).2.2⟩, n4, n5⟩
  · rw [q_gi_si, if_neg (fun q => h.ne ha q.2)]
    exact o3 a g ha hg
  · rw [q_gi_si, if_neg (fun q => h.ne (show gc σ a ≠ 0 by omega) q.2)]
    exact (n3 a ha).2.1 g
theorem ND.sj (h : GZ σ) (n : ND σ ρ) {v : Int64} : ND σ (sj ρ 402 (hs σ) v) := by
  obtain ⟨⟨o1, o2, o3, o4, o5, o6⟩, n2, n3, n4, n5⟩ := n
  refine ⟨⟨o1, o2, o3, fun a ha => ?_, o5, o6⟩, n2.sj, fun a ha => ⟨(n3 a ha).1, (n3 a ha).2.1, fun g => ?_⟩, n4, n5⟩
  · rw [q_gj_sj, if_neg (fun q => h.ne ha q.2)]
    exact o4 a ha
  · rw [q_gj_sj, if_neg (fun q => h.ne (show gc σ a ≠ 0 by omega) q.2)]
    exact (n3 a ha).2.2 g
theorem ND.cr (h : CR d σ μ x pg mc mk sa ls es Fr F N Tn Pn) (n : ND σ ρ) : CR d ρ μ x pg mc mk sa ls es Fr F N Tn Pn :=
  h.ag n.1 n.2.1.t (n.2.1.s h.1.2.1 h.1.2.2.2.1 h.1.2.2.2.2.2.1) ⟨rfl, fun _ => ⟨rfl, rfl, rfl, rfl⟩⟩ ⟨rfl, rfl, fun _ => ⟨rfl, rfl, rfl, rfl, rfl⟩⟩ ⟨fun _ => rfl, rfl, rfl⟩
/-- a NODE made: number N, its OP, its number told -/
def ndσ (σ : Sg) (N : Nat) (o : Int32) (v : Int64) : Sg := sj (si (si (si (si (si (nw σ 5) 403 (hs σ) (-1)) 404 (hs σ) (-1)) 405 (hs σ) (-1)) 400 (hs σ) (nI N)) 401 (hs σ) o) 402 (hs σ) v
theorem ndσ_n (h : GZ σ) (o : Int32) (v : Int64) : ND σ (ndσ σ N o v) :=
  ND.sj h (ND.si h (ND.si h (ND.si h (ND.si h (ND.si h (ND.nw h) (by omega)) (by omega)) (by omega)) (by omega)) (by omega))
theorem ndσ_400 (o : Int32) (v : Int64) : gi (ndσ σ N o v) 400 (hs σ) = nI N := by
  unfold ndσ
  rw [q_gi_sj, q_gi_si, if_neg (by omega), q_gi_si, if_pos ⟨rfl, rfl⟩]
theorem ndσ_401 (o : Int32) (v : Int64) : gi (ndσ σ N o v) 401 (hs σ) = o := by
  unfold ndσ
  rw [q_gi_sj, q_gi_si, if_pos ⟨rfl, rfl⟩]
theorem ndσ_402 (o : Int32) (v : Int64) : gj (ndσ σ N o v) 402 (hs σ) = v := by
  unfold ndσ
  rw [q_gj_sj, if_pos ⟨rfl, rfl⟩]
theorem ce_ninit (h : GZ σ) (o : Int32) (v : Int64) : ex_X3_init d (nw σ 5) (hs σ) (nI N) o v = some ((), ndσ σ N o v) := by
  unfold ex_X3_init
  rw [if_pos (by rw [q_gc_nw, if_pos rfl])]
  rfl
/-- a NODE added to both -/
theorem op_added (I : ID d σ μ x pg mc mk sa ls es Fr F N Tn Pn) (hN : N < 512) (n : ND σ ρ) (h4 : gi ρ 400 (hs σ) = nI N) {ν : Mu} (mm : AgM μ ν) (ml : AgL μ ν) (ms : ∀ f, 823 ≤ f → mS ν f = mS μ f) (m0 : ∀ i, mI ν 0 i = mI μ 0 i) (m1 : ∀ i, i < N → mI ν 1 i = mI μ 1 i) (m2 : ∀ i, i < 3 * N → mI ν 2 i = mI μ 2 i) (m3 : ∀ i, i < N → mJ ν 3 i = mJ μ 3 i) (s : mS ν 804 = nI (N + 1)) {o : Nat} (ho : o ≤ 20) (h1 : gi ρ 401 (hs σ) = nI o) (hm : mI ν 1 N = nI o) (z : o = 0 → gj ρ 402 (hs σ) = mJ ν 3 N) (nz : o ≠ 0 → ∀ w, w < 3 → gi ρ (403 + w) (hs σ) = mI ν 2 (3 * N + w) ∧ (nmd o w = true → mI ν 2 (3 * N + w) = -1 ∨ ∃ j, j < N ∧ mI ν 2 (3 * N + w) = nI j)) : ∃ τ es' k n, ex_X4_append d ρ pg (some (hs σ)) = some (nI N, τ, k, n) ∧ k ≤ 1 ∧ n ≤ 800 ∧ ID d τ ν x pg mc mk sa ls es' Fr F (N + 1) Tn Pn := by
  have hC := ND.cr I.1 n
  obtain ⟨τ, es', k, m, e, hk, hm', p, kn, l2, l1, e1, e2, e3, e4, old, new⟩ := ce_append hC hN n.2.2.2.1 h4
  have g := I.1.2.2.2.1
  have hes : gc σ es ≠ 0 := by rcases g.2.2.2.2.1 with q | q <;> omega
  obtain ⟨k1, k2, k3⟩ := kn _ n.2.2.2.1
  have KN2 : KN σ τ := fun a ha => by
    obtain ⟨q1, q2, q3⟩ := n.2.2.1 a ha
    obtain ⟨r1, r2, r3⟩ := kn a q1
    exact ⟨r1, fun f => (r2 f).trans (q2 f), fun f => (r3 f).trans (q3 f)⟩
  refine ⟨τ, es', k, m, e, hk, hm', I.gn (n.2.1.tr p) mm ml ms (GN.add g hN KN2 m0 m1 m2 m3 s l2 l1 e1 e2 e3 e4 (fun i hi => (old i hi).trans (n.2.2.2.2 i es hes)) new ?_)⟩
  refine ⟨k1, by rw [k2]; exact h4, o, ho, by rw [k2]; exact h1, hm, fun q => by rw [k3]; exact z q, fun q => ?_⟩
  rw [k2, k2, k2]
  refine ⟨(nz q 0 (by omega)).1, (nz q 1 (by omega)).1, (nz q 2 (by omega)).1, fun w hw hn => ?_⟩
  rcases (nz q w hw).2 hn with y | ⟨j, hj, y⟩
  · exact Or.inl y
  · exact Or.inr ⟨j, by omega, y⟩
theorem op_lit (I : ID d σ μ x pg mc mk sa ls es Fr F N Tn Pn) (hN : N < 512) (v : Int64) : ∃ r τ ν es' k n, ex_X6_lit d σ x v = some (r, τ, k, n) ∧ mx_X7_lit μ v = some (r, ν) ∧ k ≤ 2 ∧ n ≤ 806 ∧ ID d τ ν x pg mc mk sa ls es' Fr F (N + 1) Tn Pn := by
  have h := I.1
  obtain ⟨c1, c2, c3, c4, c5, c6, c7, c8, c9, c10, c11, c12, c13, c14⟩ := h.1
  obtain ⟨n1, n2, n3, n4, n5, n6, n7⟩ := h.2.2.2.1
  have nd := ndσ_n (N := N) h.2.1 0 v
  have hp : pg ≠ hs σ := h.2.1.ne (by omega)
  have hl : ls ≠ hs σ := h.2.1.ne (by omega)
  have b3 : gc (nw σ 5) pg = 6 := by rw [q_gc_nw, if_neg hp]; exact c3
  have b5 : gc (nw σ 5) ls = 1 := by rw [q_gc_nw, if_neg hl]; exact c5
  have b14 : gp (nw σ 5) 500 pg = some ls := by rw [q_gp_nw, if_neg hp]; exact c14
  have b2' : gi (nw σ 5) 2 ls = nI N := by rw [q_gi_nw, if_neg hl]; exact n3
  obtain ⟨τ, es', k, n, e, hk, hn, J⟩ := op_added I hN nd (ndσ_400 0 v) (ν := uS (uJ (uI μ 1 N 0) 3 N v) 804 (nI (N + 1))) ⟨rfl, rfl, fun i => ⟨by rw [q_mI_uS, q_mI_uJ, q_mI_uI, if_neg (by omega)], by rw [q_mI_uS, q_mI_uJ, q_mI_uI, if_neg (by omega)], by rw [q_mI_uS, q_mI_uJ, q_mI_uI, if_neg (by omega)], by rw [q_mI_uS, q_mI_uJ, q_mI_uI, if_neg (by omega)], by rw [q_mJ_uS, q_mJ_uJ, if_neg (by omega)]; rfl⟩⟩ ⟨fun i => by rw [q_mI_uS, q_mI_uJ, q_mI_uI, if_neg (by omega)], rfl, rfl⟩ (fun f hf => by rw [q_mS_uS, if_neg (by omega)]; rfl) (fun i => by rw [q_mI_uS, q_mI_uJ, q_mI_uI, if_neg (by omega)]) (fun i hi => by rw [q_mI_uS, q_mI_uJ, q_mI_uI, if_neg (by omega)]) (fun i hi => by rw [q_mI_uS, q_mI_uJ, q_mI_uI, if_neg (by omega)]) (fun i hi => by rw [q_mJ_uS, q_mJ_uJ, if_neg (by omega)]; rfl) (by rw [q_mS_uS, if_pos rfl]) (o := 0) (by omega) (ndσ_401 0 v) (by rw [q_mI_uS, q_mI_uJ, q_mI_uI, if_pos ⟨rfl, rfl⟩]; rfl) (fun _ => by rw [ndσ_402, q_mJ_uS, q_mJ_uJ, if_pos ⟨rfl, rfl⟩]) (fun q => absurd rfl q)
  have b6 : gc (ndσ σ N 0 v) pg = 6 := (ND.cr h nd).1.2.2.1
  refine ⟨nI N, τ, _, es', 0 + (0 + 1 + k), 0 + (0 + 6 + n), ?_, ?_, by omega, by omega, J⟩
  · unfold ex_X6_lit
    rw [if_pos c1, c8, Option.bind_some, if_pos c3]
    unfold ex_X4_addLiteral
    rw [if_pos c3, c14, Option.bind_some, if_pos c5]
    unfold ex_Jx4a65c_size_8abf5
    rw [if_pos c5, b2_some, n3, if_pos (by rw [show (4000 : Int32) = nI 4000 from rfl, nI_ltI (by omega) (by omega)]; omega), if_pos b3, b14, Option.bind_some, if_pos b5, if_pos b5, b2_some, b2', ce_ninit h.2.1, b2_some, if_pos b6, e, b4_some, b4_some]
  · unfold mx_X7_lit
    rw [n2, if_neg (by rw [show (4000 : Int32) = nI 4000 from rfl, nI_eq (by omega) (by omega)]; omega), if_pos (nI_bd (n := 4000) (by omega) (by omega)), nI_clamp (by omega), bm_eq, show mS (uI μ 1 N 0) 804 = nI N from n2, if_pos (nI_bd (n := 4000) (by omega) (by omega)), nI_clamp (by omega), bm_eq, show mS (uJ (uI μ 1 N 0) 3 N v) 804 = nI N from n2, nI_1, bm_eq, show mS (uS (uJ (uI μ 1 N 0) 3 N v) 804 (nI (N + 1))) 804 = nI (N + 1) from rfl, show nI (N + 1) - 1 = nI N from nI_pred N]
theorem op_node (I : ID d σ μ x pg mc mk sa ls es Fr F N Tn Pn) (hN : N < 512) (p1 p2 p3 p4 : Int32) : ∃ r τ ν es' N' k n, ex_X6_node d σ x p1 p2 p3 p4 = some (r, τ, k, n) ∧ mx_X7_node μ p1 p2 p3 p4 = some (r, ν) ∧ k ≤ 2 ∧ n ≤ 806 ∧ N' ≤ N + 1 ∧ ID d τ ν x pg mc mk sa ls es' Fr F N' Tn Pn := by
  have h := I.1
  obtain ⟨c1, c2, c3, c4, c5, c6, c7, c8, c9, c10, c11, c12, c13, c14⟩ := h.1
  obtain ⟨n1, n2, n3, n4, n5, n6, n7⟩ := h.2.2.2.1
  by_cases z1 : p1 < 1
  · exact ⟨-1, σ, μ, es, N, 0, 0, by unfold ex_X6_node; rw [if_pos z1], by unfold mx_X7_node; rw [if_pos z1], by omega, by omega, by omega, I⟩
  by_cases z2 : p1 ≤ 20
  · have p0 : ¬ p1 < 0 := fun q => z1 (by
      rw [Int32.lt_iff_toInt_lt] at q ⊢
      rw [show (0 : Int32).toInt = 0 from by decide] at q
      rw [show (1 : Int32).toInt = 1 from by decide]
      omega)
    obtain ⟨o, ho, rfl⟩ := nI_of p0
    have o1 : 1 ≤ o := by
      rw [show (1 : Int32) = nI 1 from rfl, nI_ltI ho (by omega)] at z1
      omega
    have o2 : o ≤ 20 := by
      rw [show (20 : Int32) = nI 20 from rfl, nI_leI ho (by omega)] at z2
      exact z2
    have z3 : ¬ (20 : Int32) < nI o := by rw [show (20 : Int32) = nI 20 from rfl, nI_ltI (by omega) ho]; omega
    have hp : pg ≠ hs σ := h.2.1.ne (by omega)
    have hl : ls ≠ hs σ := h.2.1.ne (by omega)
    have b3 : gc (nw σ 5) pg = 6 := by rw [q_gc_nw, if_neg hp]; exact c3
    have b5 : gc (nw σ 5) ls = 1 := by rw [q_gc_nw, if_neg hl]; exact c5
    have b14 : gp (nw σ 5) 500 pg = some ls := by rw [q_gp_nw, if_neg hp]; exact c14
    have b2' : gi (nw σ 5) 2 ls = nI N := by rw [q_gi_nw, if_neg hl]; exact n3
    have d0 := ndσ_n (N := N) h.2.1 (nI o) 0
    have a0 : gi (ndσ σ N (nI o) 0) 400 (hs σ) = nI N := ndσ_400 _ _
    have t0 : gi (ndσ σ N (nI o) 0) 401 (hs σ) = nI o := ndσ_401 _ _
    have ei := ce_ninit (d := d) (N := N) h.2.1 (nI o) 0
    generalize ndσ σ N (nI o) 0 = σ0 at d0 a0 t0 ei
    have C0 := ND.cr h d0
    have d1 := ND.si h.2.1 d0 (f := 403) (v := pv N o 0 p2) (by omega)
    have C1 := ND.cr h d1
    have d2 := ND.si h.2.1 d1 (f := 404) (v := pv N o 1 p3) (by omega)
    have C2 := ND.cr h d2
    have d3 := ND.si h.2.1 d2 (f := 405) (v := pv N o 2 p4) (by omega)
    have C3 := ND.cr h d3
    have e1 := ce_setPart C0 d0.2.2.2.1 t0 o2 (w := 0) (by omega) p2
    have t1 : gi (si σ0 403 (hs σ) (pv N o 0 p2)) 401 (hs σ) = nI o := by rw [q_gi_si, if_neg (by omega)]; exact t0
    have e2 := ce_setPart C1 d1.2.2.2.1 t1 o2 (w := 1) (by omega) p3
    have t2 : gi (si (si σ0 403 (hs σ) (pv N o 0 p2)) 404 (hs σ) (pv N o 1 p3)) 401 (hs σ) = nI o := by rw [q_gi_si, if_neg (by omega)]; exact t1
    have e3 := ce_setPart C2 d2.2.2.2.1 t2 o2 (w := 2) (by omega) p4
    have J1 := mx_join_ev (uI μ 1 N (nI o)) (n := N) (w := 0) (o := o) (N := N) (by omega) (by omega) o2 (by rw [q_mI_uI, if_pos ⟨rfl, rfl⟩]) (fun q hq => by rw [q_mI_uI, if_neg (by omega)]; exact n7 q hq) n2 p2
    have J2 := mx_join_ev (uI (uI μ 1 N (nI o)) 2 (3 * N + 0) (pv N o 0 p2)) (n := N) (w := 1) (o := o) (N := N) (by omega) (by omega) o2 (by rw [q_mI_uI, if_neg (by omega), q_mI_uI, if_pos ⟨rfl, rfl⟩]) (fun q hq => by rw [q_mI_uI, if_neg (by omega), q_mI_uI, if_neg (by omega)]; exact n7 q hq) n2 p3
    have J3 := mx_join_ev (uI (uI (uI μ 1 N (nI o)) 2 (3 * N + 0) (pv N o 0 p2)) 2 (3 * N + 1) (pv N o 1 p3)) (n := N) (w := 2) (o := o) (N := N) (by omega) (by omega) o2 (by rw [q_mI_uI, if_neg (by omega), q_mI_uI, if_neg (by omega), q_mI_uI, if_pos ⟨rfl, rfl⟩]) (fun q hq => by rw [q_mI_uI, if_neg (by omega), q_mI_uI, if_neg (by omega), q_mI_uI, if_neg (by omega)]; exact n7 q hq) n2 p4
    have rI : ∀ k i, k ≠ 1 → k ≠ 2 → mI (uS (uI (uI (uI (uI μ 1 N (nI o)) 2 (3 * N + 0) (pv N o 0 p2)) 2 (3 * N + 1) (pv N o 1 p3)) 2 (3 * N + 2) (pv N o 2 p4)) 804 (nI (N + 1))) k i = mI μ k i := fun k i q1 q2 => by rw [q_mI_uS, q_mI_uI, if_neg (by omega), q_mI_uI, if_neg (by omega), q_mI_uI, if_neg (by omega), q_mI_uI, if_neg (by omega)]
    obtain ⟨τ, es', k, n, e, hk, hn, J⟩ := op_added I hN d3 (by rw [q_gi_si, if_neg (by omega), q_gi_si, if_neg (by omega), q_gi_si, if_neg (by omega)]; exact a0) (ν := uS (uI (uI (uI (uI μ 1 N (nI o)) 2 (3 * N + 0) (pv N o 0 p2)) 2 (3 * N + 1) (pv N o 1 p3)) 2 (3 * N + 2) (pv N o 2 p4)) 804 (nI (N + 1))) ⟨rfl, rfl, fun i => ⟨rI _ _ (by omega) (by omega), rI _ _ (by omega) (by omega), rI _ _ (by omega) (by omega), rI _ _ (by omega) (by omega), rfl⟩⟩ ⟨fun i => rI _ _ (by omega) (by omega), rfl, rfl⟩ (fun f hf => by rw [q_mS_uS, if_neg (by omega)]; rfl) (fun i => rI _ _ (by omega) (by omega)) (fun i hi => by rw [q_mI_uS, q_mI_uI, if_neg (by omega), q_mI_uI, if_neg (by omega), q_mI_uI, if_neg (by omega), q_mI_uI, if_neg (by omega)]) (fun i hi => by rw [q_mI_uS, q_mI_uI, if_neg (by omega), q_mI_uI, if_neg (by omega), q_mI_uI, if_neg (by omega), q_mI_uI, if_neg (by omega)]) (fun i hi => rfl) (by rw [q_mS_uS, if_pos rfl]) (o := o) o2 (by rw [q_gi_si, if_neg (by omega)]; exact t2) (by rw [q_mI_uS, q_mI_uI, if_neg (by omega), q_mI_uI, if_neg (by omega), q_mI_uI, if_neg (by omega), q_mI_uI, if_pos ⟨rfl, rfl⟩]) (fun q => by omega) (fun _ w hw => by
      rcases (show w = 0 ∨ w = 1 ∨ w = 2 by omega) with rfl | rfl | rfl
      · have m : mI (uS (uI (uI (uI (uI μ 1 N (nI o)) 2 (3 * N + 0) (pv N o 0 p2)) 2 (3 * N + 1) (pv N o 1 p3)) 2 (3 * N + 2) (pv N o 2 p4)) 804 (nI (N + 1))) 2 (3 * N + 0) = pv N o 0 p2 := by rw [q_mI_uS, q_mI_uI, if_neg (by omega), q_mI_uI, if_neg (by omega), q_mI_uI, if_pos ⟨rfl, rfl⟩]
        rw [m]
        exact ⟨by rw [q_gi_si, if_neg (by omega), q_gi_si, if_neg (by omega), q_gi_si, if_pos ⟨rfl, rfl⟩], fun q => pv_ok n1 _ _ _ q⟩
      · have m : mI (uS (uI (uI (uI (uI μ 1 N (nI o)) 2 (3 * N + 0) (pv N o 0 p2)) 2 (3 * N + 1) (pv N o 1 p3)) 2 (3 * N + 2) (pv N o 2 p4)) 804 (nI (N + 1))) 2 (3 * N + 1) = pv N o 1 p3 := by rw [q_mI_uS, q_mI_uI, if_neg (by omega), q_mI_uI, if_pos ⟨rfl, rfl⟩]
        rw [m]
        exact ⟨by rw [q_gi_si, if_neg (by omega), q_gi_si, if_pos ⟨rfl, rfl⟩], fun q => pv_ok n1 _ _ _ q⟩
      · have m : mI (uS (uI (uI (uI (uI μ 1 N (nI o)) 2 (3 * N + 0) (pv N o 0 p2)) 2 (3 * N + 1) (pv N o 1 p3)) 2 (3 * N + 2) (pv N o 2 p4)) 804 (nI (N + 1))) 2 (3 * N + 2) = pv N o 2 p4 := by rw [q_mI_uS, q_mI_uI, if_pos ⟨rfl, rfl⟩]
        rw [m]
        exact ⟨by rw [q_gi_si, if_pos ⟨rfl, rfl⟩], fun q => pv_ok n1 _ _ _ q⟩)
    refine ⟨nI N, τ, _, es', N + 1, 0 + (0 + 1 + k), 0 + (0 + 6 + n), ?_, ?_, by omega, by omega, by omega, J⟩
    · unfold ex_X6_node
      rw [if_neg z1, if_pos z2, if_pos c1, c8, Option.bind_some, if_pos c3]
      unfold ex_X4_add
      rw [if_pos c3, c14, Option.bind_some, if_pos c5]
      unfold ex_Jx4a65c_size_8abf5
      rw [if_pos c5, b2_some, n3, if_pos (by rw [show (4000 : Int32) = nI 4000 from rfl, nI_ltI (by omega) (by omega)]; omega), if_pos b3, b14, Option.bind_some, if_pos b5, if_pos b5, b2_some, b2', ei, b2_some, if_pos C0.1.2.2.1]
      rw [show ex_X4_setPart d σ0 pg (some (hs σ)) 0 p2 = _ from e1, b2_some, if_pos C1.1.2.2.1]
      rw [show ex_X4_setPart d (si σ0 (403 + 0) (hs σ) (pv N o 0 p2)) pg (some (hs σ)) 1 p3 = _ from e2, b2_some, if_pos C2.1.2.2.1]
      rw [show ex_X4_setPart d (si (si σ0 403 (hs σ) (pv N o 0 p2)) (403 + 1) (hs σ) (pv N o 1 p3)) pg (some (hs σ)) 2 p4 = _ from e3, b2_some, if_pos C3.1.2.2.1]
      rw [show ex_X4_append d (si (si (si σ0 403 (hs σ) (pv N o 0 p2)) 404 (hs σ) (pv N o 1 p3)) (403 + 2) (hs σ) (pv N o 2 p4)) pg (some (hs σ)) = _ from e, b4_some, b4_some]
    · unfold mx_X7_node
      rw [if_neg z1, if_neg z3, n2, if_neg (by rw [show (4000 : Int32) = nI 4000 from rfl, nI_eq (by omega) (by omega)]; omega), if_pos (nI_bd (n := 4000) (by omega) (by omega)), nI_clamp (by omega), bm_eq, show mS (uI μ 1 N (nI o)) 804 = nI N from n2]
      rw [show mx_X7_join (uI μ 1 N (nI o)) (nI N) 0 p2 = _ from J1, b2_some, show mS (uI (uI μ 1 N (nI o)) 2 (3 * N + 0) (pv N o 0 p2)) 804 = nI N from n2]
      rw [show mx_X7_join (uI (uI μ 1 N (nI o)) 2 (3 * N + 0) (pv N o 0 p2)) (nI N) 1 p3 = _ from J2, b2_some, show mS (uI (uI (uI μ 1 N (nI o)) 2 (3 * N + 0) (pv N o 0 p2)) 2 (3 * N + 1) (pv N o 1 p3)) 804 = nI N from n2]
      rw [show mx_X7_join (uI (uI (uI μ 1 N (nI o)) 2 (3 * N + 0) (pv N o 0 p2)) 2 (3 * N + 1) (pv N o 1 p3)) (nI N) 2 p4 = _ from J3, b2_some, show mS (uI (uI (uI (uI μ 1 N (nI o)) 2 (3 * N + 0) (pv N o 0 p2)) 2 (3 * N + 1) (pv N o 1 p3)) 2 (3 * N + 2) (pv N o 2 p4)) 804 = nI N from n2, nI_1, bm_eq, show mS (uS (uI (uI (uI (uI μ 1 N (nI o)) 2 (3 * N + 0) (pv N o 0 p2)) 2 (3 * N + 1) (pv N o 1 p3)) 2 (3 * N + 2) (pv N o 2 p4)) 804 (nI (N + 1))) 804 = nI (N + 1) from rfl, show nI (N + 1) - 1 = nI N from nI_pred N]
  · have z3 : (20 : Int32) < p1 := Int32.not_le.mp z2
    exact ⟨-1, σ, μ, es, N, 0, 0, by unfold ex_X6_node; rw [if_neg z1, if_neg z2], by unfold mx_X7_node; rw [if_neg z1, if_pos z3], by omega, by omega, by omega, I⟩
end LIST
