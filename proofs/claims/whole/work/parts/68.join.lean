section JOIN
variable {d : Dp} {σ τ ρ : Sg} {μ ν : Mu} {x m pg mc mk sa ls es es' : Nat} {ma : Nat → Nat} {Fr Fr' : Nat → Nat} {F N N' Tn Tm Pn Pm : Nat}
theorem oI_800 {f : Nat} (h : oI f = true) : f < 800 := by
  unfold oI at h
  simp at h
  omega
theorem Fq.o (q : Fq σ τ) (z : GZ σ) : AgO σ τ := by
  obtain ⟨q1, q2, q3, q4, q5, q6, q7⟩ := q
  exact ⟨fun a ha => by rw [q2] at ha; rw [q1]; exact z a ha, fun a _ => ⟨by rw [q2], by rw [q5]⟩, fun a f _ hf => by rw [q7 f (oI_800 hf)], fun a _ => by rw [q3], fun a f _ _ => by rw [q4], fun a i _ => by rw [q6]⟩
theorem CR.fq (h : CR d σ μ x pg mc mk sa ls es Fr F N Tn Pn) (q : Fq σ τ) : CR d τ μ x pg mc mk sa ls es Fr F N Tn Pn := by
  have o := q.o h.2.1
  obtain ⟨q1, q2, q3, q4, q5, q6, q7⟩ := q
  exact h.ag o ⟨fun a => by rw [q2], fun a _ => ⟨by rw [q7 600 (by omega)], by rw [q7 601 (by omega)], by rw [q3], by rw [q4], by rw [q4], by rw [q7 605 (by omega)], by rw [q4]⟩, fun a _ _ => ⟨by rw [q2], by rw [q5], fun j => by rw [q6]⟩⟩ ⟨by rw [q7 300 (by omega)], by rw [q7 301 (by omega)], fun i => by rw [q6], by rw [q4], by rw [q4]⟩ ⟨rfl, fun _ => ⟨rfl, rfl, rfl, rfl⟩⟩ ⟨rfl, rfl, fun _ => ⟨rfl, rfl, rfl, rfl, rfl⟩⟩ ⟨fun _ => rfl, rfl, rfl⟩
theorem ID.fq (I : ID d σ μ x pg mc mk sa ls es Fr F N Tn Pn) (q : Fq σ τ) : ID d τ μ x pg mc mk sa ls es Fr F N Tn Pn := by
  obtain ⟨h, i1, i2, i3, S, i4, i5, i6, i7⟩ := I
  have h' := h.fq q
  obtain ⟨q1, q2, q3, q4, q5, q6, q7⟩ := q
  exact ⟨h', by rw [q7 211 (by omega)]; exact i1, by rw [q7 212 (by omega)]; exact i2, by rw [q7 210 (by omega)]; exact i3, S, by rw [q7 207 (by omega)]; exact i4, i5, i6, i7⟩
theorem kA_0 (k : Nat) : kA k ≠ 0 := by
  unfold kA
  split <;> omega
theorem fA_8 : ∀ k, k < 14 → 800 ≤ fA k := by decide
theorem KM.ms (K : KM σ τ) (hZ : GZ σ) (M : MS σ m ma) : MS τ m ma := by
  obtain ⟨m1, m2, m3, m4, m5⟩ := M
  obtain ⟨k1, k2⟩ := K
  have hm := k2 m (hZ m (by omega))
  have ha : ∀ k, k < 14 → ma k < hs σ := fun k hk => hZ _ (by rw [m3 k hk]; exact kA_0 k)
  exact ⟨hm.1.trans m1, fun k hk => (hm.2.2.2.2 _ (fA_8 k hk)).2.trans (m2 k hk), fun k hk => (k2 _ (ha k hk)).1.trans (m3 k hk), fun k hk => (k2 _ (ha k hk)).2.1.trans (m4 k hk), m5⟩
theorem KM.id (K : KM σ τ) (M : MS σ m ma) (I : ID d σ (Vw σ m ma) x pg mc mk sa ls es Fr F N Tn Pn) : ID d σ (Vw τ m ma) x pg mc mk sa ls es Fr F N Tn Pn := by
  obtain ⟨h, i1, i2, i3, S, i4, i5, i6, i7⟩ := I
  have hZ := h.2.1
  obtain ⟨m1, m2, m3, m4, m5⟩ := M
  obtain ⟨k1, k2⟩ := K
  have hm := k2 m (hZ m (by omega))
  have ha : ∀ k, k < 14 → ma k < hs σ := fun k hk => hZ _ (by rw [m3 k hk]; exact kA_0 k)
  have hS : ∀ f, 800 ≤ f → mS (Vw τ m ma) f = mS (Vw σ m ma) f := fun f hf => (hm.2.2.2.2 f hf).1
  refine ⟨h.mu (fun k i => ?_) (fun k i => ?_) (fun f hf => hS f (by omega)), by rw [hS 826 (by omega)]; exact i1, by rw [hS 827 (by omega)]; exact i2, by rw [hS 823 (by omega)]; exact i3, S, i4, by rw [hS 824 (by omega)]; exact i5, i6, i7⟩
  · show (if k < 14 then ai τ (ma k) i else 0) = (if k < 14 then ai σ (ma k) i else 0)
    by_cases q : k < 14
    · rw [if_pos q, if_pos q]
      exact (k2 _ (ha k q)).2.2.1 i
    · rw [if_neg q, if_neg q]
  · show (if k < 14 then aj τ (ma k) i else 0) = (if k < 14 then aj σ (ma k) i else 0)
    by_cases q : k < 14
    · rw [if_pos q, if_pos q]
      exact (k2 _ (ha k q)).2.2.2.1 i
    · rw [if_neg q, if_neg q]

theorem jn_value (M : MS σ m ma) (I : ID d σ (Vw σ m ma) x pg mc mk sa ls es Fr F N Tn Pn) (p : Int32) : ∃ (r : Int64) (τ : Sg), ex_X6_value d σ x p = some (r, σ) ∧ ex_X7_value d σ m p = some (r, τ) ∧ MS τ m ma ∧ ID d τ (Vw τ m ma) x pg mc mk sa ls es Fr F N Tn Pn := by
  obtain ⟨r, e1, e2⟩ := op_value I p
  obtain ⟨τ, f1, f2, f3, f4⟩ := mm_X7_value (d := d) M e2
  refine ⟨_, τ, e1, f1, f2, ?_⟩
  rw [f3]
  exact I.fq f4
theorem jn_thing (M : MS σ m ma) (I : ID d σ (Vw σ m ma) x pg mc mk sa ls es Fr F N Tn Pn) (p p2 : Int32) : ∃ (r : Int32) (τ : Sg), ex_X6_thing d σ x p p2 = some (r, σ) ∧ ex_X7_thing d σ m p p2 = some (r, τ) ∧ MS τ m ma ∧ ID d τ (Vw τ m ma) x pg mc mk sa ls es Fr F N Tn Pn := by
  obtain ⟨r, e1, e2⟩ := op_thing I p p2
  obtain ⟨τ, f1, f2, f3, f4⟩ := mm_X7_thing (d := d) M e2
  refine ⟨_, τ, e1, f1, f2, ?_⟩
  rw [f3]
  exact I.fq f4
theorem jn_fault (M : MS σ m ma) (I : ID d σ (Vw σ m ma) x pg mc mk sa ls es Fr F N Tn Pn)  : ∃ (r : Int32) (τ : Sg), ex_X6_fault d σ x  = some (r, σ) ∧ ex_X7_fault d σ m  = some (r, τ) ∧ MS τ m ma ∧ ID d τ (Vw τ m ma) x pg mc mk sa ls es Fr F N Tn Pn := by
  obtain ⟨e1, e2⟩ := op_fault I
  obtain ⟨τ, f1, f2, f3, f4⟩ := mm_X7_fault (d := d) M e2
  refine ⟨_, τ, e1, f1, f2, ?_⟩
  rw [f3]
  exact I.fq f4
theorem jn_faultNode (M : MS σ m ma) (I : ID d σ (Vw σ m ma) x pg mc mk sa ls es Fr F N Tn Pn)  : ∃ (r : Int32) (τ : Sg), ex_X6_faultNode d σ x  = some (r, σ) ∧ ex_X7_faultNode d σ m  = some (r, τ) ∧ MS τ m ma ∧ ID d τ (Vw τ m ma) x pg mc mk sa ls es Fr F N Tn Pn := by
  obtain ⟨e1, e2⟩ := op_faultNode I
  obtain ⟨τ, f1, f2, f3, f4⟩ := mm_X7_faultNode (d := d) M e2
  refine ⟨_, τ, e1, f1, f2, ?_⟩
  rw [f3]
  exact I.fq f4
theorem jn_steps (M : MS σ m ma) (I : ID d σ (Vw σ m ma) x pg mc mk sa ls es Fr F N Tn Pn)  : ∃ (r : Int32) (τ : Sg), ex_X6_steps d σ x  = some (r, σ) ∧ ex_X7_steps d σ m  = some (r, τ) ∧ MS τ m ma ∧ ID d τ (Vw τ m ma) x pg mc mk sa ls es Fr F N Tn Pn := by
  obtain ⟨e1, e2⟩ := op_steps I
  obtain ⟨τ, f1, f2, f3, f4⟩ := mm_X7_steps (d := d) M e2
  refine ⟨_, τ, e1, f1, f2, ?_⟩
  rw [f3]
  exact I.fq f4
theorem jn_part (M : MS σ m ma) (I : ID d σ (Vw σ m ma) x pg mc mk sa ls es Fr F N Tn Pn) (p1 p2 p3 : Int32) : ∃ (r : Int32) (τ τ' : Sg), ex_X6_part d σ x p1 p2 p3 = some (r, τ) ∧ gc τ m = 9 ∧ ex_X7_part d τ m p1 p2 p3 = some (r, τ') ∧ MS τ' m ma ∧ ID d τ' (Vw τ' m ma) x pg mc mk sa ls es Fr F N Tn Pn := by
  obtain ⟨r0, τ0, ν0, e0, -⟩ := op_part I p1 p2 p3
  have K := km_ex_X6_part d σ x p1 p2 p3 _ _ e0
  obtain ⟨r, τ, ν, e1, e2, J⟩ := op_part (K.id M I) p1 p2 p3
  have e : τ0 = τ := by
    have q := e0.symm.trans e1
    simp only [Option.some.injEq, Prod.mk.injEq] at q
    exact q.2
  subst e
  have M1 := K.ms I.1.2.1 M
  obtain ⟨τ', f1, f2, f3, f4⟩ := mm_X7_part (d := d) M1 e2
  subst f3
  exact ⟨r, τ0, τ', e1, M1.1, f1, f2, J.fq f4⟩
theorem jn_wipe (M : MS σ m ma) (I : ID d σ (Vw σ m ma) x pg mc mk sa ls es Fr F N Tn Pn)  : ∃ (τ τ' : Sg), ex_X6_wipe d σ x  = some ((), τ) ∧ gc τ m = 9 ∧ ex_X7_wipe d τ m  = some ((), τ') ∧ MS τ' m ma ∧ ID d τ' (Vw τ' m ma) x pg mc mk sa ls es Fr F 0 Tn Pn := by
  obtain ⟨τ0, ν0, e0, -⟩ := op_wipe I 
  have K := km_ex_X6_wipe d σ x  _ _ e0
  obtain ⟨τ, ν, e1, e2, J⟩ := op_wipe (K.id M I) 
  have e : τ0 = τ := by
    have q := e0.symm.trans e1
    simp only [Option.some.injEq, Prod.mk.injEq] at q
    exact q.2
  subst e
  have M1 := K.ms I.1.2.1 M
  obtain ⟨τ', f1, f2, f3, f4⟩ := mm_X7_wipe (d := d) M1 e2
  subst f3
  exact ⟨τ0, τ', e1, M1.1, f1, f2, J.fq f4⟩
theorem jn_lit (M : MS σ m ma) (I : ID d σ (Vw σ m ma) x pg mc mk sa ls es Fr F N Tn Pn) (hN : N < 512) (v : Int64) : ∃ r τ τ' es' k n, ex_X6_lit d σ x v = some (r, τ, k, n) ∧ gc τ m = 9 ∧ ex_X7_lit d τ m v = some (r, τ') ∧ MS τ' m ma ∧ k ≤ 2 ∧ n ≤ 806 ∧ ID d τ' (Vw τ' m ma) x pg mc mk sa ls es' Fr F (N + 1) Tn Pn := by
  obtain ⟨r0, τ0, ν0, es0, k0, n0, e0, -⟩ := op_lit I hN v
  have K := km_ex_X6_lit d σ x v _ _ _ _ e0
  obtain ⟨r, τ, ν, es', k, n, e1, e2, hk, hn, J⟩ := op_lit (K.id M I) hN v
  have e : τ0 = τ := by
    have q := e0.symm.trans e1
    simp only [Option.some.injEq, Prod.mk.injEq] at q
    exact q.2.1
  subst e
  have M1 := K.ms I.1.2.1 M
  obtain ⟨τ', f1, f2, f3, f4⟩ := mm_X7_lit (d := d) M1 e2
  subst f3
  exact ⟨r, τ0, τ', es', k, n, e1, M1.1, f1, f2, hk, hn, J.fq f4⟩
theorem jn_node (M : MS σ m ma) (I : ID d σ (Vw σ m ma) x pg mc mk sa ls es Fr F N Tn Pn) (hN : N < 512) (p1 p2 p3 p4 : Int32) : ∃ r τ τ' es' N' k n, ex_X6_node d σ x p1 p2 p3 p4 = some (r, τ, k, n) ∧ gc τ m = 9 ∧ ex_X7_node d τ m p1 p2 p3 p4 = some (r, τ') ∧ MS τ' m ma ∧ k ≤ 2 ∧ n ≤ 806 ∧ N' ≤ N + 1 ∧ ID d τ' (Vw τ' m ma) x pg mc mk sa ls es' Fr F N' Tn Pn := by
  obtain ⟨r0, τ0, ν0, es0, N0, k0, n0, e0, -⟩ := op_node I hN p1 p2 p3 p4
  have K := km_ex_X6_node d σ x p1 p2 p3 p4 _ _ _ _ e0
  obtain ⟨r, τ, ν, es', N', k, n, e1, e2, hk, hn, hN', J⟩ := op_node (K.id M I) hN p1 p2 p3 p4
  have e : τ0 = τ := by
    have q := e0.symm.trans e1
    simp only [Option.some.injEq, Prod.mk.injEq] at q
    exact q.2.1
  subst e
  have M1 := K.ms I.1.2.1 M
  obtain ⟨τ', f1, f2, f3, f4⟩ := mm_X7_node (d := d) M1 e2
  subst f3
  exact ⟨r, τ0, τ', es', N', k, n, e1, M1.1, f1, f2, hk, hn, hN', J.fq f4⟩
theorem jn_run (M : MS σ m ma) (I : ID d σ (Vw σ m ma) x pg mc mk sa ls es Fr F N Tn Pn) (p1 p2 : Int32) : ∃ r τ τ' k n Fr' F' Tm Pm, ex_X6_run d σ x p1 p2 = some (r, τ, k, n) ∧ gc τ m = 9 ∧ ex_X7_run d τ m p1 p2 = some (r, τ') ∧ MS τ' m ma ∧ F ≤ F' ∧ Tn ≤ Tm ∧ Pn ≤ Pm ∧ k ≤ 2 * (Tm - Tn) + (F' - F) ∧ n ≤ 7 * (Tm - Tn) + (Pm - Pn) + 10 * (F' - F) ∧ ID d τ' (Vw τ' m ma) x pg mc mk sa ls es Fr' F' N Tm Pm := by
  obtain ⟨r0, τ0, ν0, k0, n0, Fr0, F0, Tm0, Pm0, e0, -⟩ := op_run I p1 p2
  have K := km_ex_X6_run d σ x p1 p2 _ _ _ _ e0
  obtain ⟨r, τ, ν, k, n, Fr', F', Tm, Pm, e1, e2, J, hF, hT, hP, hk, hn⟩ := op_run (K.id M I) p1 p2
  have e : τ0 = τ := by
    have q := e0.symm.trans e1
    simp only [Option.some.injEq, Prod.mk.injEq] at q
    exact q.2.1
  subst e
  have M1 := K.ms I.1.2.1 M
  obtain ⟨τ', f1, f2, f3, f4⟩ := mm_X7_run (d := d) M1 e2
  subst f3
  exact ⟨r, τ0, τ', 0 + k, 0 + n, Fr', F', Tm, Pm, e1, M1.1, f1, f2, hF, hT, hP, by omega, by omega, J.fq f4⟩
end JOIN
