section OPS
variable {d : Dp} {σ τ : Sg} {μ ν : Mu} {x pg mc mk sa ls es : Nat} {Fr Fr' : Nat → Nat} {F N Tn Tm Pn Pm : Nat}
theorem op_fault (I : ID d σ μ x pg mc mk sa ls es Fr F N Tn Pn) : ex_X6_fault d σ x = some (mS μ 826, σ) ∧ mx_X7_fault μ = some (mS μ 826, μ) := by
  refine ⟨?_, rfl⟩
  unfold ex_X6_fault
  rw [if_pos I.1.1.1, show gp σ 701 x = some mc from I.1.1.2.2.2.2.2.2.2.2.1]
  simp only [Option.bind_some]
  rw [if_pos I.1.1.2.1, I.2.1]
theorem op_faultNode (I : ID d σ μ x pg mc mk sa ls es Fr F N Tn Pn) : ex_X6_faultNode d σ x = some (mS μ 827, σ) ∧ mx_X7_faultNode μ = some (mS μ 827, μ) := by
  refine ⟨?_, rfl⟩
  unfold ex_X6_faultNode
  rw [if_pos I.1.1.1, show gp σ 701 x = some mc from I.1.1.2.2.2.2.2.2.2.2.1]
  simp only [Option.bind_some]
  rw [if_pos I.1.1.2.1, I.2.2.1]
theorem op_steps (I : ID d σ μ x pg mc mk sa ls es Fr F N Tn Pn) : ex_X6_steps d σ x = some (mS μ 823, σ) ∧ mx_X7_steps μ = some (mS μ 823, μ) := by
  refine ⟨?_, rfl⟩
  unfold ex_X6_steps
  rw [if_pos I.1.1.1, show gp σ 701 x = some mc from I.1.1.2.2.2.2.2.2.2.2.1]
  simp only [Option.bind_some]
  rw [if_pos I.1.1.2.1, I.2.2.2.1]
theorem slot_le {p : Int32} : (256 : Int32) ≤ p ↔ ¬ p ≤ 255 := by
  rw [Int32.le_iff_toInt_le, Int32.le_iff_toInt_le, show (256 : Int32).toInt = 256 from by decide, show (255 : Int32).toInt = 255 from by decide]
  omega
theorem seen (h : CR d σ μ x pg mc mk sa ls es Fr F N Tn Pn) (p : Int32) : ∃ q v, ex_X1_seenAt d σ mc p = some (q, σ) ∧ mx_X7_thingAt μ p = some (v, μ) ∧ pr σ Tn q v := by
  have h3 : gc σ mc = 3 := h.1.2.1
  have hsa : gp σ 202 mc = some sa := h.1.2.2.2.2.2.2.2.2.2.2.2.1
  have h12 : gc σ sa = 12 := h.1.2.2.2.2.2.1
  have h256 : gl σ sa = 256 := h.1.2.2.2.2.2.2.1
  obtain ⟨g1, g2, g3, g4, g5⟩ := h.2.2.2.2.2
  unfold ex_X1_seenAt mx_X7_thingAt
  by_cases e : p = -1
  · exact ⟨gp σ 206 mc, mS μ 825, by rw [if_pos e, if_pos h3], by rw [if_pos e], g5⟩
  · rcases slot_in p with hs | ⟨i, hi, rfl⟩
    · refine ⟨none, -1, ?_, ?_, pr.nl⟩
      · rw [if_neg e, if_pos h3, ce_isSlot_no hs]
        simp only [b2_some]
        rw [if_pos trivial]
      · rw [if_neg e]
        by_cases l : p < 0
        · rw [if_pos l]
        · rw [if_neg l, if_neg (slot_le.mp (by rcases hs with q | q; exact absurd q l; exact q))]
    · refine ⟨ap σ sa i, mI μ 9 i, ?_, ?_, g3 i hi⟩
      · rw [if_neg e, if_pos h3, ce_isSlot_yes hi]
        simp only [b2_some]
        rw [if_neg (by decide), if_pos h3, hsa]
        simp only [Option.bind_some]
        rw [if_pos h12, if_pos (by rw [h256]; exact nI_bd hi (by omega)), nI_clamp (by omega)]
      · rw [if_neg e, if_neg (nI_nl (by omega)), if_pos (by rw [show (255 : Int32) = nI 255 from rfl, nI_leI (by omega) (by omega)]; omega), if_pos (nI_bd hi (by omega)), nI_clamp (by omega)]
theorem th (h : CR d σ μ x pg mc mk sa ls es Fr F N Tn Pn) {q : Option Nat} {v : Int32} (hp : pr σ Tn q v) : (q = none ∧ v = -1) ∨ ∃ t j, q = some t ∧ v = nI j ∧ j < 50000 ∧ gc σ t = 7 ∧ gi σ 600 t = nI j ∧ Tk σ μ Tn Pn t j := by
  rcases hp with ⟨h1, h2⟩ | ⟨t, j, h1, h2, h3, h4, h5⟩
  · exact Or.inl ⟨h2, h1⟩
  · have h50 := h.2.2.2.2.1.1
    obtain ⟨i, hi, e6, hk⟩ := h.2.2.2.2.1.2.2.2.2.1 t h4
    have hij : i = j := (nI_eq (by omega) (by omega)).mp (e6.symm.trans h5)
    subst hij
    exact Or.inr ⟨t, i, h1, h2, by omega, h4, h5, hk⟩
theorem op_value (I : ID d σ μ x pg mc mk sa ls es Fr F N Tn Pn) (p : Int32) : ∃ r, ex_X6_value d σ x p = some (r, σ) ∧ mx_X7_value μ p = some (r, μ) := by
  have h := I.1
  obtain ⟨q, v, s1, s2, s3⟩ := seen h p
  have A : ∀ r, (if q = none then some ((0 : Int64), σ) else (Option.bind q fun a9 => (if gc σ a9 = 7 then (b2 (ex_X5_hasValue d σ a9) fun r14 s13 => (if r14 = (0 : Int32) then some ((0 : Int64), s13) else (if gc s13 a9 = 7 then some (gj s13 602 a9, s13) else none))) else none))) = some (r, σ) → ex_X6_value d σ x p = some (r, σ) := fun r hr => by
    unfold ex_X6_value
    rw [if_pos h.1.1, show gp σ 701 x = some mc from h.1.2.2.2.2.2.2.2.2.1]
    simp only [Option.bind_some]
    rw [if_pos h.1.2.1, s1]
    exact hr
  unfold mx_X7_value
  rw [s2]
  simp only [b2_some]
  rcases th h s3 with ⟨e1, e2⟩ | ⟨t, j, e1, e2, e3, e4, e5, e6⟩
  · exact ⟨0, A 0 (by rw [if_pos e1]), by rw [if_pos e2]⟩
  · subst e1
    subst e2
    have hjb := nI_bd (n := 50000) (j := j) (by omega) (by omega)
    have hj2 : (nI j).toNatClampNeg = j := nI_clamp (by omega)
    have hk : gi σ 601 t = mI μ 4 j := e6.1
    by_cases k : mI μ 4 j = 1 ∨ mI μ 4 j = 6
    · have hv : gj σ 602 t = mJ μ 7 j := by
        rcases e6.2 with z | z | z | z | z
        · exact z.2.1
        · exfalso; rcases k with k | k <;> rcases z.1 with z | z <;> (rw [k] at z; exact absurd z (by decide))
        all_goals (exfalso; have z := z.1; rcases k with k | k <;> (rw [k] at z; exact absurd z (by decide)))
      refine ⟨mJ μ 7 j, A _ ?_, ?_⟩
      · rw [if_neg (by simp)]
        simp only [Option.bind_some]
        rw [if_pos e4]
        unfold ex_X5_hasValue
        rw [if_pos e4, hk]
        rcases k with k | k
        · rw [if_pos k]
          simp only [b2_some]
          rw [if_neg (by decide), if_pos e4, hv]
        · rw [if_neg (by rw [k]; decide), if_pos k]
          simp only [b2_some]
          rw [if_neg (by decide), if_pos e4, hv]
      · rw [if_neg (nI_ne (by omega)), if_pos hjb, hj2]
        rw [hj2] at hjb
        rcases k with k | k
        · rw [if_pos k, if_pos hjb]
        · rw [if_neg (by rw [k]; decide), if_pos hjb, if_pos k, if_pos hjb]
    · have k1 : ¬ mI μ 4 j = 1 := fun q => k (Or.inl q)
      have k6 : ¬ mI μ 4 j = 6 := fun q => k (Or.inr q)
      refine ⟨0, A _ ?_, ?_⟩
      · rw [if_neg (by simp)]
        simp only [Option.bind_some]
        rw [if_pos e4]
        unfold ex_X5_hasValue
        rw [if_pos e4, hk, if_neg k1, if_neg k6]
        simp only [b2_some]
        rw [if_pos trivial]
      · rw [if_neg (nI_ne (by omega)), if_pos hjb, hj2, if_neg k1]
        rw [hj2] at hjb
        rw [if_pos hjb, if_neg k6]
theorem num_of (h : CR d σ μ x pg mc mk sa ls es Fr F N Tn Pn) {q : Option Nat} {v : Int32} (hp : pr σ Tn q v) : ex_X5_numberOf d σ q = some (v, σ) := by
  unfold ex_X5_numberOf
  rcases hp with ⟨h1, h2⟩ | ⟨t, j, h1, h2, h3, h4, h5⟩
  · rw [if_pos h2, h1]
  · subst h1
    rw [if_neg (by simp)]
    simp only [Option.bind_some]
    rw [if_pos h4, h5, h2]
theorem tell_1 {t j : Nat} (e4 : gc σ t = 7) (e5 : gi σ 600 t = nI j) : ex_X5_tell d σ t 1 = some (nI j, σ) := by
  unfold ex_X5_tell
  rw [if_pos rfl, if_pos e4, e5]
theorem tell_2 (h : CR d σ μ x pg mc mk sa ls es Fr F N Tn Pn) {t j : Nat} (e4 : gc σ t = 7) (e6 : Tk σ μ Tn Pn t j) : ex_X5_tell d σ t 2 = some (if mI μ 4 j = 1 ∨ mI μ 4 j = 6 then -1 else mI μ 5 j, σ) := by
  unfold ex_X5_tell
  rw [if_neg (by decide), if_pos rfl, if_pos e4, e6.1]
  rcases e6.2 with z | z | z | z | ⟨z0, z, b, q, k1, k2, k3, k4, k5, k6, k7, k8, k9⟩
  · rw [if_neg (by rcases z.1 with q | q <;> (rw [q]; decide)), z.2.2.1, num_of h pr.nl, if_pos z.1]
    rfl
  · rw [if_neg (by rcases z.1 with q | q <;> (rw [q]; decide)), num_of h z.2.1, if_neg (by rcases z.1 with q | q <;> (rw [q]; decide))]
    rfl
  · rw [if_neg (by rw [z.1]; decide), num_of h z.2.1, if_neg (by rw [z.1]; decide)]
    rfl
  · rw [if_pos z.1, if_neg (by rw [z.1]; decide), z.2.1]
    unfold ex_X5_placesOrNone
    rw [if_pos e4, if_pos z.2.2.2]
    rfl
  · rw [if_pos z0, if_neg (by rw [z0]; decide), k1]
    unfold ex_X5_placesOrNone
    rw [if_pos e4, if_neg (by rw [k4]; simp), k4]
    simp only [Option.bind_some]
    rw [if_pos k5, k6]
    rfl
theorem tell_3 (h : CR d σ μ x pg mc mk sa ls es Fr F N Tn Pn) {t j : Nat} (e4 : gc σ t = 7) (e6 : Tk σ μ Tn Pn t j) : ex_X5_tell d σ t 3 = some (if mI μ 4 j = 1 ∨ mI μ 4 j = 6 ∨ mI μ 4 j = 4 then -1 else mI μ 6 j, σ) := by
  unfold ex_X5_tell
  rw [if_neg (by decide), if_neg (by decide), if_pos rfl, if_pos e4, e6.1]
  rcases e6.2 with z | z | z | z | ⟨z0, z, b, q, k1, k2, k3, k4, k5, k6, k7, k8, k9⟩
  · rw [if_neg (by rcases z.1 with q | q <;> (rw [q]; decide)), z.2.2.2, num_of h pr.nl, if_pos (by rcases z.1 with q | q; exact Or.inl q; exact Or.inr (Or.inl q))]
    rfl
  · rw [if_neg (by rcases z.1 with q | q <;> (rw [q]; decide)), num_of h z.2.2, if_neg (by rcases z.1 with q | q <;> (rw [q]; decide))]
    rfl
  · rw [if_neg (by rw [z.1]; decide), z.2.2, num_of h pr.nl, if_pos (Or.inr (Or.inr z.1))]
    rfl
  · rw [if_pos z.1, if_neg (by rw [z.1]; decide), z.2.2.1]
    unfold ex_X5_useOrNone
    rw [if_pos e4, if_pos z.2.2.2]
    rfl
  · rw [if_pos z0, if_neg (by rw [z0]; decide)]
    unfold ex_X5_useOrNone
    rw [if_pos e4, if_neg (by rw [k4]; simp), k7]
    rfl
theorem tell_x {t : Nat} {p : Int32} (h1 : p ≠ 1) (h2 : p ≠ 2) (h3 : p ≠ 3) : ex_X5_tell d σ t p = some (-1, σ) := by
  unfold ex_X5_tell
  rw [if_neg h1, if_neg h2, if_neg h3]
theorem p3_in {p : Int32} (h : ¬ p < 0) (h3 : p ≤ 3) : p = 0 ∨ p = 1 ∨ p = 2 ∨ p = 3 := by
  obtain ⟨i, hi, rfl⟩ := nI_of h
  rw [show (3 : Int32) = nI 3 from rfl, nI_leI hi (by omega)] at h3
  rcases (show i = 0 ∨ i = 1 ∨ i = 2 ∨ i = 3 by omega) with rfl | rfl | rfl | rfl
  · exact Or.inl rfl
  · exact Or.inr (Or.inl rfl)
  · exact Or.inr (Or.inr (Or.inl rfl))
  · exact Or.inr (Or.inr (Or.inr rfl))
theorem m1_le {p : Int32} (h : p < -1) : p ≠ -1 ∧ p < 0 := by
  refine ⟨fun e => by rw [e] at h; exact absurd h (by decide), ?_⟩
  rw [Int32.lt_iff_toInt_lt] at h ⊢
  rw [show (-1 : Int32).toInt = -1 from by decide] at h
  rw [show (0 : Int32).toInt = 0 from by decide]
  omega
theorem op_thing (I : ID d σ μ x pg mc mk sa ls es Fr F N Tn Pn) (p p2 : Int32) : ∃ r, ex_X6_thing d σ x p p2 = some (r, σ) ∧ mx_X7_thing μ p p2 = some (r, μ) := by
  have h := I.1
  have h3 : gc σ mc = 3 := h.1.2.1
  have h701 : gp σ 701 x = some mc := h.1.2.2.2.2.2.2.2.2.1
  obtain ⟨q, v, s1, s2, s3⟩ := seen h p
  by_cases inn : p = -1 ∨ ∃ i : Nat, i < 256 ∧ p = nI i
  · have C1 : ex_X1_canSee d σ mc p = some (1, σ) := by
      unfold ex_X1_canSee
      by_cases e : p = -1
      · rw [if_pos e]
      · rcases inn with e' | ⟨i, hi, rfl⟩
        · exact absurd e' e
        · rw [if_neg e, if_pos h3, ce_isSlot_yes hi]
          simp only [b2_some]
          rw [if_neg (by decide)]
    have A : ∀ r, (if p2 = (0 : Int32) then (if q = none then some ((0 : Int32), σ) else (Option.bind q fun a25 => (if gc σ a25 = 7 then some (gi σ 601 a25, σ) else none))) else (if q = none then some ((-1 : Int32), σ) else (Option.bind q fun a18 => (if gc σ a18 = 7 then (b2 (ex_X5_tell d σ a18 p2) fun r23 s22 => some (r23, s22)) else none)))) = some (r, σ) → ex_X6_thing d σ x p p2 = some (r, σ) := fun r hr => by
      unfold ex_X6_thing
      rw [if_pos h.1.1, h701]
      simp only [Option.bind_some]
      rw [if_pos h3, C1]
      simp only [b2_some]
      rw [if_neg (by decide), if_pos h.1.1, h701]
      simp only [Option.bind_some]
      rw [if_pos h3, s1]
      exact hr
    have B1 : ¬ p < -1 := fun e => by
      rcases inn with e' | ⟨i, hi, rfl⟩
      · exact (m1_le e).1 e'
      · exact nI_nl (by omega) (m1_le e).2
    have B2 : ¬ (255 : Int32) < p := fun e => by
      rcases inn with e' | ⟨i, hi, rfl⟩
      · rw [e'] at e; exact absurd e (by decide)
      · rw [show (255 : Int32) = nI 255 from rfl, nI_ltI (by omega) (by omega)] at e
        omega
    unfold mx_X7_thing
    rw [if_neg B1, if_neg B2]
    by_cases w0 : p2 < 0
    · have n0 : p2 ≠ 0 := fun e => by rw [e] at w0; exact absurd w0 (by decide)
      have n1 : p2 ≠ 1 := fun e => by rw [e] at w0; exact absurd w0 (by decide)
      have n2 : p2 ≠ 2 := fun e => by rw [e] at w0; exact absurd w0 (by decide)
      have n3 : p2 ≠ 3 := fun e => by rw [e] at w0; exact absurd w0 (by decide)
      refine ⟨-1, A _ ?_, by rw [if_pos w0]⟩
      rw [if_neg n0]
      rcases th h s3 with ⟨e1, e2⟩ | ⟨t, j, e1, e2, e3, e4, e5, e6⟩
      · rw [if_pos e1]
      · subst e1
        rw [if_neg (by simp)]
        simp only [Option.bind_some]
        rw [if_pos e4, tell_x n1 n2 n3]
        rfl
    · by_cases w3 : p2 ≤ 3
      · rw [if_neg w0, if_pos w3, s2]
        simp only [b2_some]
        rcases th h s3 with ⟨e1, e2⟩ | ⟨t, j, e1, e2, e3, e4, e5, e6⟩
        · by_cases z : p2 = 0
          · exact ⟨0, A _ (by rw [if_pos z, if_pos e1]), by rw [if_pos z, if_pos e2]⟩
          · exact ⟨-1, A _ (by rw [if_neg z, if_pos e1]), by rw [if_neg z, if_pos e2]⟩
        · subst e1
          subst e2
          have hjb := nI_bd (n := 50000) (j := j) (by omega) (by omega)
          have hj2 : (nI j).toNatClampNeg = j := nI_clamp (by omega)
          have hjb2 : ¬ (nI j < 0 ∨ 50000 ≤ j) := by rw [hj2] at hjb; exact hjb
          have hne : ¬ nI j = -1 := nI_ne (by omega)
          have n01 : ¬ (1 : Int32) = 0 := by decide
          have n12 : ¬ (1 : Int32) = 2 := by decide
          have ns : ¬ some t = none := by simp
          simp only [hj2, if_neg hne, if_neg ns, Option.bind_some, if_pos e4] at A ⊢
          rcases p3_in w0 w3 with rfl | rfl | rfl | rfl
          · exact ⟨mI μ 4 j, A _ (by rw [if_pos rfl, e6.1]), by rw [if_pos rfl, if_pos hjb2]⟩
          · exact ⟨nI j, A _ (by rw [if_neg (by decide), tell_1 e4 e5]; rfl), by rw [if_neg (by decide), if_pos rfl]⟩
          · refine ⟨_, A _ (by rw [if_neg (by decide), tell_2 h e4 e6]; rfl), ?_⟩
            rw [if_neg (by decide), if_neg (by decide)]
            have kk : mI μ 4 j = 1 ∨ mI μ 4 j = 6 ∨ mI μ 4 j = 2 ∨ mI μ 4 j = 3 ∨ mI μ 4 j = 4 ∨ mI μ 4 j = 5 := by
              rcases e6.2 with z | z | z | z | z
              · rcases z.1 with z | z; exact Or.inl z; exact Or.inr (Or.inl z)
              · rcases z.1 with z | z; exact Or.inr (Or.inr (Or.inl z)); exact Or.inr (Or.inr (Or.inr (Or.inl z)))
              · exact Or.inr (Or.inr (Or.inr (Or.inr (Or.inl z.1))))
              · exact Or.inr (Or.inr (Or.inr (Or.inr (Or.inr z.1))))
              · exact Or.inr (Or.inr (Or.inr (Or.inr (Or.inr z.1))))
            rcases kk with kk | kk | kk | kk | kk | kk <;> (simp only [kk, if_pos hjb2]; rfl)
          · refine ⟨_, A _ (by rw [if_neg (by decide), tell_3 h e4 e6]; rfl), ?_⟩
            rw [if_neg (by decide), if_neg (by decide)]
            have kk : mI μ 4 j = 1 ∨ mI μ 4 j = 6 ∨ mI μ 4 j = 2 ∨ mI μ 4 j = 3 ∨ mI μ 4 j = 4 ∨ mI μ 4 j = 5 := by
              rcases e6.2 with z | z | z | z | z
              · rcases z.1 with z | z; exact Or.inl z; exact Or.inr (Or.inl z)
              · rcases z.1 with z | z; exact Or.inr (Or.inr (Or.inl z)); exact Or.inr (Or.inr (Or.inr (Or.inl z)))
              · exact Or.inr (Or.inr (Or.inr (Or.inr (Or.inl z.1))))
              · exact Or.inr (Or.inr (Or.inr (Or.inr (Or.inr z.1))))
              · exact Or.inr (Or.inr (Or.inr (Or.inr (Or.inr z.1))))
            rcases kk with kk | kk | kk | kk | kk | kk <;> (simp only [kk, if_pos hjb2]; rfl)
      · have n0 : p2 ≠ 0 := fun e => w3 (by rw [e]; decide)
        have n1 : p2 ≠ 1 := fun e => w3 (by rw [e]; decide)
        have n2 : p2 ≠ 2 := fun e => w3 (by rw [e]; decide)
        have n3 : p2 ≠ 3 := fun e => w3 (by rw [e]; decide)
        refine ⟨-1, A _ ?_, by rw [if_neg w0, if_neg w3]⟩
        rw [if_neg n0]
        rcases th h s3 with ⟨e1, e2⟩ | ⟨t, j, e1, e2, e3, e4, e5, e6⟩
        · rw [if_pos e1]
        · subst e1
          rw [if_neg (by simp)]
          simp only [Option.bind_some]
          rw [if_pos e4, tell_x n1 n2 n3]
          rfl
  · have e : p ≠ -1 := fun e => inn (Or.inl e)
    have hs : p < 0 ∨ 256 ≤ p := by
      rcases slot_in p with hs | hs
      · exact hs
      · exact absurd (Or.inr hs) inn
    refine ⟨-1, ?_, ?_⟩
    · unfold ex_X6_thing
      rw [if_pos h.1.1, h701]
      simp only [Option.bind_some]
      rw [if_pos h3]
      unfold ex_X1_canSee
      rw [if_neg e, if_pos h3, ce_isSlot_no hs]
      simp only [b2_some]
      rw [if_pos trivial]
      rfl
    · unfold mx_X7_thing
      by_cases l : p < 0
      · have : p < -1 := by
          rw [Int32.lt_iff_toInt_lt] at l ⊢
          rw [show (-1 : Int32).toInt = -1 from by decide]
          rw [show (0 : Int32).toInt = 0 from by decide] at l
          have : p.toInt ≠ -1 := fun q => e (Int32.toInt_inj.mp (by rw [q]; decide))
          omega
        rw [if_pos this]
      · have h256 : (256 : Int32) ≤ p := by rcases hs with q | q; exact absurd q l; exact q
        have : (255 : Int32) < p := by
          rw [Int32.lt_iff_toInt_lt, show (255 : Int32).toInt = 255 from by decide]
          rw [Int32.le_iff_toInt_le, show (256 : Int32).toInt = 256 from by decide] at h256
          omega
        rw [if_neg (fun q => l (m1_le q).2), if_pos this]
end OPS
