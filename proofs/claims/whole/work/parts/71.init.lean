section INIT
variable {d : Dp} {σ τ ρ : Sg} {μ ν : Mu} {x m h pg mc mk sa ls es es' L : Nat} {ma : Nat → Nat} {Fr Fr' : Nat → Nat} {F N N' Tn Tm Pn Pm : Nat} {xs : Nat → Int32}
theorem sg_nw (σ : Sg) (c : Nat) (e : hs σ = h) : ∃ τ, nw σ c = τ ∧ hs τ = h + 1 ∧ (∀ y, gc τ y = if y = h then c else gc σ y) ∧ (∀ y, gl τ y = gl σ y) ∧ (∀ f y, gi τ f y = if y = h then 0 else gi σ f y) ∧ (∀ f y, gp τ f y = if y = h then none else gp σ f y) ∧ (∀ y i, ap τ y i = ap σ y i) :=
  ⟨_, rfl, by rw [q_hs_nw, e], fun y => by rw [q_gc_nw, e], fun _ => rfl, fun f y => by rw [q_gi_nw, e], fun f y => by rw [q_gp_nw, e], fun _ _ => rfl⟩
theorem sg_na (σ : Sg) (c n : Nat) (e : hs σ = h) : ∃ τ, na σ c n = τ ∧ hs τ = h + 1 ∧ (∀ y, gc τ y = if y = h then c else gc σ y) ∧ (∀ y, gl τ y = if y = h then n else gl σ y) ∧ (∀ f y, gi τ f y = gi σ f y) ∧ (∀ f y, gp τ f y = gp σ f y) ∧ (∀ y i, ap τ y i = if y = h then none else ap σ y i) :=
  ⟨_, rfl, by rw [q_hs_na, e], fun y => by rw [q_gc_na, e], fun y => by rw [q_gl_na, e], fun _ _ => rfl, fun _ _ => rfl, fun y i => by rw [q_ap_na, e]⟩
theorem sg_si (σ : Sg) (f a : Nat) (v : Int32) (e : hs σ = h) : ∃ τ, si σ f a v = τ ∧ hs τ = h ∧ (∀ y, gc τ y = gc σ y) ∧ (∀ y, gl τ y = gl σ y) ∧ (∀ g y, gi τ g y = if g = f ∧ y = a then v else gi σ g y) ∧ (∀ g y, gp τ g y = gp σ g y) ∧ (∀ y i, ap τ y i = ap σ y i) :=
  ⟨_, rfl, e, fun _ => rfl, fun _ => rfl, fun g y => by rw [q_gi_si], fun _ _ => rfl, fun _ _ => rfl⟩
theorem sg_sp (σ : Sg) (f a : Nat) (v : Option Nat) (e : hs σ = h) : ∃ τ, sp σ f a v = τ ∧ hs τ = h ∧ (∀ y, gc τ y = gc σ y) ∧ (∀ y, gl τ y = gl σ y) ∧ (∀ g y, gi τ g y = gi σ g y) ∧ (∀ g y, gp τ g y = if g = f ∧ y = a then v else gp σ g y) ∧ (∀ y i, ap τ y i = ap σ y i) :=
  ⟨_, rfl, e, fun _ => rfl, fun _ => rfl, fun _ _ => rfl, fun g y => by rw [q_gp_sp], fun _ _ => rfl⟩
/-- the class's objects, new -/
def CI (d : Dp) (τ : Sg) (h : Nat) : Prop := hs τ = h + 7 ∧ GZ τ ∧ (∀ a, gc τ a ≠ 7) ∧ GC τ h (h + 2) (h + 1) (h + 4) (h + 5) (h + 3) (h + 6) ∧ gc τ (h + 6) = 2 ∧ gi τ 101 (h + 6) = 0 ∧ gp τ 102 (h + 6) = none ∧ gi τ 2 (h + 3) = 0 ∧ gp τ 1 (h + 3) = some (dfl d) ∧ gc τ (dfl d) = 14 ∧ gl τ (dfl d) = 0 ∧ gi τ 300 (h + 4) = 0 ∧ gi τ 301 (h + 4) = 0 ∧ (∀ i, ap τ (h + 5) i = none) ∧ gp τ 205 (h + 1) = none ∧ gp τ 206 (h + 1) = none ∧ gi τ 211 (h + 1) = 0 ∧ gi τ 212 (h + 1) = -1 ∧ gi τ 210 (h + 1) = 0 ∧ gi τ 207 (h + 1) = 0
theorem tc256 : Int32.toNatClampNeg (256 : Int32) = 256 := by decide
/-- what the class's constructor leaves -/
def C0 (d : Dp) (σ τ : Sg) (h : Nat) : Prop := hs τ = h + 7 ∧ (∀ y, gc τ y = if y = h then 8 else if y = h + 1 then 3 else if y = h + 2 then 6 else if y = h + 3 then 1 else if y = h + 4 then 4 else if y = h + 5 then 12 else if y = h + 6 then 2 else gc σ y) ∧ (∀ y, gl τ y = if y = h + 5 then 256 else gl σ y) ∧ (∀ f, gi τ f (h + 6) = 0) ∧ (∀ f, gi τ f (h + 3) = 0) ∧ (∀ f, gi τ f (h + 4) = 0) ∧ (∀ f, gi τ f (h + 1) = if f = 212 then -1 else 0) ∧ gp τ 700 h = some (h + 2) ∧ gp τ 701 h = some (h + 1) ∧ gp τ 200 (h + 1) = some (h + 2) ∧ gp τ 201 (h + 1) = some (h + 4) ∧ gp τ 202 (h + 1) = some (h + 5) ∧ gp τ 203 (h + 1) = some (h + 6) ∧ gp τ 500 (h + 2) = some (h + 3) ∧ gp τ 102 (h + 6) = none ∧ gp τ 1 (h + 3) = some (dfl d) ∧ gp τ 205 (h + 1) = none ∧ gp τ 206 (h + 1) = none ∧ ∀ i, ap τ (h + 5) i = none
theorem ne_h15 (h : Nat) : ¬ h + 1 = h + 5 := by omega
theorem y7 {h y : Nat} (q : h ≤ y ∧ y < h + 7) : y = h ∨ y = h + 1 ∨ y = h + 2 ∨ y = h + 3 ∨ y = h + 4 ∨ y = h + 5 ∨ y = h + 6 := by omega
theorem y7n {h y : Nat} (q : ¬ (h ≤ y ∧ y < h + 7)) : ¬ y = h ∧ ¬ y = h + 1 ∧ ¬ y = h + 2 ∧ ¬ y = h + 3 ∧ ¬ y = h + 4 ∧ ¬ y = h + 5 ∧ ¬ y = h + 6 := by omega
set_option maxHeartbeats 4000000 in
theorem ce_cinit0 (e0 : hs σ = h) : ∃ τ, ex_X6_init d (nw σ 8) h = some ((), τ, 0 + 1 + (0 + 1 + (0 + 1) + 1 + 1 + 1), 0 + 13 + (0 + 1 + (0 + 3) + 2 + 256 + 10)) ∧ C0 d σ τ h := by
  obtain ⟨s1, E1, H1, C1, L1, G1, P1, A1⟩ := sg_nw (h := h) σ 8 e0
  obtain ⟨s2, E2, H2, C2, L2, G2, P2, A2⟩ := sg_nw (h := h + 1) s1 3 H1
  obtain ⟨s3, E3, H3, C3, L3, G3, P3, A3⟩ := sg_nw (h := h + 2) s2 6 H2
  obtain ⟨s4, E4, H4, C4, L4, G4, P4, A4⟩ := sg_nw (h := h + 3) s3 1 H3
  obtain ⟨s5, E5, H5, C5, L5, G5, P5, A5⟩ := sg_si (h := h + 4) s4 0 (h + 3) 0 H4
  obtain ⟨s6, E6, H6, C6, L6, G6, P6, A6⟩ := sg_sp (h := h + 4) s5 1 (h + 3) (some (dfl d)) H5
  obtain ⟨s7, E7, H7, C7, L7, G7, P7, A7⟩ := sg_sp (h := h + 4) s6 500 (h + 2) (some (h + 3)) H6
  obtain ⟨s8, E8, H8, C8, L8, G8, P8, A8⟩ := sg_sp (h := h + 4) s7 200 (h + 1) (some (h + 2)) H7
  obtain ⟨s9, E9, H9, C9, L9, G9, P9, A9⟩ := sg_nw (h := h + 4) s8 4 H8
  obtain ⟨s10, E10, H10, C10, L10, G10, P10, A10⟩ := sg_sp (h := h + 5) s9 201 (h + 1) (some (h + 4)) H9
  obtain ⟨s11, E11, H11, C11, L11, G11, P11, A11⟩ := sg_na (h := h + 5) s10 12 256 H10
  obtain ⟨s12, E12, H12, C12, L12, G12, P12, A12⟩ := sg_sp (h := h + 6) s11 202 (h + 1) (some (h + 5)) H11
  obtain ⟨s13, E13, H13, C13, L13, G13, P13, A13⟩ := sg_nw (h := h + 6) s12 2 H12
  obtain ⟨s14, E14, H14, C14, L14, G14, P14, A14⟩ := sg_sp (h := h + 7) s13 100 (h + 6) none H13
  obtain ⟨s15, E15, H15, C15, L15, G15, P15, A15⟩ := sg_si (h := h + 7) s14 101 (h + 6) 0 H14
  obtain ⟨s16, E16, H16, C16, L16, G16, P16, A16⟩ := sg_sp (h := h + 7) s15 203 (h + 1) (some (h + 6)) H15
  obtain ⟨s17, E17, H17, C17, L17, G17, P17, A17⟩ := sg_sp (h := h + 7) s16 204 (h + 1) (some (h + 6)) H16
  obtain ⟨s18, E18, H18, C18, L18, G18, P18, A18⟩ := sg_si (h := h + 7) s17 212 (h + 1) (-1) H17
  obtain ⟨s19, E19, H19, C19, L19, G19, P19, A19⟩ := sg_sp (h := h + 7) s18 701 h (some (h + 1)) H18
  obtain ⟨s20, E20, H20, C20, L20, G20, P20, A20⟩ := sg_sp (h := h + 7) s19 700 h (some (h + 2)) H19
  have K3 : gc s4 (h + 3) = 1 := by simp [C4, C3, C2, C1]
  have K5 : gc s5 (h + 3) = 1 := by simp [C5, K3]
  have K6 : gc s6 (h + 2) = 6 := by simp [C6, C5, C4, C3, C2, C1]
  have K7 : gc s7 (h + 1) = 3 := by simp [C7, C6, C5, C4, C3, C2, C1]
  have K9 : gc s9 (h + 1) = 3 := by simp [C9, C8, C7, C6, C5, C4, C3, C2, C1]
  have K9' : gc (na s9 12 256) (h + 1) = 3 := by rw [q_gc_na, H9, if_neg (ne_h15 h)]; exact K9
  have K13 : gc s13 (h + 6) = 2 := by simp [C13]
  have K15 : gc s15 (h + 1) = 3 := by simp [C15, C14, C13, C12, C11, C10, C9, C8, C7, C6, C5, C4, C3, C2, C1]
  have K18 : gc s18 h = 8 := by simp [C18, C17, C16, C15, C14, C13, C12, C11, C10, C9, C8, C7, C6, C5, C4, C3, C2, C1]
  have K18' : gc s18 (h + 1) = 3 := by simp [C18, C17, C16, C15, C14, C13, C12, C11, C10, C9, C8, C7, C6, C5, C4, C3, C2, C1]
  have Q16 : gp s16 203 (h + 1) = some (h + 6) := by simp [P16]
  have Q19 : gp s19 701 h = some (h + 1) := by simp [P19]
  have Q18 : gp s18 200 (h + 1) = some (h + 2) := by simp [P18, P17, P16, P15, P14, P13, P12, P11, P10, P9, P8]
  refine ⟨s20, ?_, ?_⟩
  · unfold ex_X6_init
    rw [E1, H1, E2]
    unfold ex_X1_init
    rw [H2, E3]
    unfold ex_X4_init
    rw [H3, E4]
    unfold ex_Jx4a65c_init_da8c8 ex_Jxc12de_init_da8c8 ex_Jxa1e45_init_da8c8
    rw [b2_some, if_pos K3, E5, b2_some, if_pos K5, E6, b2_some, if_pos K6, E7, b4_some, if_pos K7, E8, H7, E9]
    unfold ex_X2_init
    rw [b2_some, if_pos K9, tc256, if_pos K9', E10, E11, H9, E12, E13]
    unfold ex_X0_init
    rw [if_pos K13, E14, E15, b2_some, if_pos K15, E16, Q16, E17, E18, b4_some, if_pos K18, E19, Q19, Option.bind_some, if_pos K18', Q18, E20]
  · refine ⟨H20, fun y => ?_, fun y => ?_, fun f => ?_, fun f => ?_, fun f => ?_, fun f => ?_, ?_, ?_, ?_, ?_, ?_, ?_, ?_, ?_, ?_, ?_, ?_, fun i => ?_⟩
    · by_cases q : h ≤ y ∧ y < h + 7
      · rcases y7 q with rfl | rfl | rfl | rfl | rfl | rfl | rfl
        all_goals simp [C20, C19, C18, C17, C16, C15, C14, C13, C12, C11, C10, C9, C8, C7, C6, C5, C4, C3, C2, C1]
      · obtain ⟨n0, n1, n2, n3, n4, n5, n6⟩ := y7n q
        rw [C20, C19, C18, C17, C16, C15, C14, C13, C12, C11, C10, C9, C8, C7, C6, C5, C4, C3, C2, C1]
        rw [if_neg n6, if_neg n6, if_neg n5, if_neg n5, if_neg n4, if_neg n4, if_neg n3, if_neg n3, if_neg n2, if_neg n2, if_neg n1, if_neg n1, if_neg n0]
    · simp [L20, L19, L18, L17, L16, L15, L14, L13, L12, L11, L10, L9, L8, L7, L6, L5, L4, L3, L2, L1]
    · simp [G20, G19, G18, G17, G16, G15, G14, G13, G12, G11, G10, G9, G8, G7, G6, G5, G4, G3, G2, G1]
    · simp [G20, G19, G18, G17, G16, G15, G14, G13, G12, G11, G10, G9, G8, G7, G6, G5, G4, G3, G2, G1]
    · simp [G20, G19, G18, G17, G16, G15, G14, G13, G12, G11, G10, G9, G8, G7, G6, G5, G4, G3, G2, G1]
    · simp [G20, G19, G18, G17, G16, G15, G14, G13, G12, G11, G10, G9, G8, G7, G6, G5, G4, G3, G2, G1]
    · simp [P20]
    · simp [P20, P19]
    · simp [P20, P19, P18, P17, P16, P15, P14, P13, P12, P11, P10, P9, P8]
    · simp [P20, P19, P18, P17, P16, P15, P14, P13, P12, P11, P10]
    · simp [P20, P19, P18, P17, P16, P15, P14, P13, P12]
    · simp [P20, P19, P18, P17, P16]
    · simp [P20, P19, P18, P17, P16, P15, P14, P13, P12, P11, P10, P9, P8, P7]
    · simp [P20, P19, P18, P17, P16, P15, P14, P13]
    · simp [P20, P19, P18, P17, P16, P15, P14, P13, P12, P11, P10, P9, P8, P7, P6]
    · simp [P20, P19, P18, P17, P16, P15, P14, P13, P12, P11, P10, P9, P8, P7, P6, P5, P4, P3, P2]
    · simp [P20, P19, P18, P17, P16, P15, P14, P13, P12, P11, P10, P9, P8, P7, P6, P5, P4, P3, P2]
    · simp [A20, A19, A18, A17, A16, A15, A14, A13, A12, A11]
theorem ci_of (c : C0 d σ τ h) (e0 : hs σ = h) (hZ : GZ σ) (h7 : ∀ a, gc σ a ≠ 7) (d1 : gc σ (dfl d) = 14) (d2 : gl σ (dfl d) = 0) : CI d τ h := by
  have dl : dfl d < h := by rw [← e0]; exact hZ _ (by omega)
  obtain ⟨c1, ZC, ZL, g6, g3, g4, g1, p1, p2, p3, p4, p5, p6, p7, p8, p9, p10, p11, A⟩ := c
  refine ⟨c1, fun a ha => ?_, fun a => ?_, ⟨?_, ?_, ?_, ?_, ?_, ?_, ?_, p1, p2, p3, p4, p5, p6, p7⟩, ?_, g6 101, p8, g3 2, p9, ?_, ?_, g4 300, g4 301, A, p10, p11, by rw [g1, if_neg (by omega)], by rw [g1, if_pos rfl], by rw [g1, if_neg (by omega)], by rw [g1, if_neg (by omega)]⟩
  · rw [ZC] at ha
    rw [c1]
    by_cases q : a < h + 7
    · exact q
    · rw [if_neg (by omega), if_neg (by omega), if_neg (by omega), if_neg (by omega), if_neg (by omega), if_neg (by omega), if_neg (by omega)] at ha
      have := hZ a ha
      omega
  · rw [ZC]
    have z := h7 a
    by_cases q : h ≤ a ∧ a < h + 7
    · rcases y7 q with rfl | rfl | rfl | rfl | rfl | rfl | rfl
      all_goals simp
    · obtain ⟨n0, n1, n2, n3, n4, n5, n6⟩ := y7n q
      rw [if_neg n0, if_neg n1, if_neg n2, if_neg n3, if_neg n4, if_neg n5, if_neg n6]
      exact z
  · simp [ZC]
  · simp [ZC]
  · simp [ZC]
  · simp [ZC]
  · simp [ZC]
  · simp [ZC]
  · simp [ZL]
  · simp [ZC]
  · rw [ZC, if_neg (by omega), if_neg (by omega), if_neg (by omega), if_neg (by omega), if_neg (by omega), if_neg (by omega), if_neg (by omega)]
    exact d1
  · rw [ZL, if_neg (by omega)]
    exact d2
theorem ce_cinit (e0 : hs σ = h) (hZ : GZ σ) (h7 : ∀ a, gc σ a ≠ 7) (d1 : gc σ (dfl d) = 14) (d2 : gl σ (dfl d) = 0) : ∃ τ k n, ex_X6_init d (nw σ 8) h = some ((), τ, k, n) ∧ k ≤ 10 ∧ n ≤ 400 ∧ CI d τ h := by
  obtain ⟨τ, e, c⟩ := ce_cinit0 (d := d) e0
  exact ⟨τ, _, _, e, by omega, by omega, ci_of c e0 hZ h7 d1 d2⟩
/-- the reference's numbers, new -/
def MI (μ : Mu) : Prop := mS μ 804 = 0 ∧ mS μ 809 = 0 ∧ mS μ 811 = 0 ∧ mS μ 813 = -1 ∧ mS μ 825 = -1 ∧ mS μ 826 = 0 ∧ mS μ 827 = -1 ∧ mS μ 823 = 0 ∧ mS μ 824 = 0 ∧ (∀ i, i < 256 → mI μ 9 i = -1) ∧ ∀ o, o ≤ 20 → mI μ 0 o = nI (nmT.getD o 0)
theorem ci_id (C : CI d τ h) (M : MI μ) : ID d τ μ h (h + 2) (h + 1) (h + 4) (h + 5) (h + 3) (dfl d) (fun _ => h + 6) 0 0 0 0 := by
  obtain ⟨c1, c2, c3, c4, c5, c6, c7, c8, c9, c10, c11, c12, c13, c14, c15, c16, c17, c18, c19, c20⟩ := C
  obtain ⟨m1, m2, m3, m4, m5, m6, m7, m8, m9, m10, m11⟩ := M
  refine ⟨⟨c4, c2, ⟨by omega, fun i hi => ?_, fun i hi => by omega⟩, ⟨by omega, m1, c8, c9, Or.inr ⟨rfl, rfl, c10, c11⟩, fun i hi => by omega, m11⟩, ⟨by omega, by omega, m2, m3, fun a ha => absurd ha (c3 a), fun a b ha => absurd ha (c3 a), fun a b q ha => absurd ha (c3 a), fun a q ha => absurd ha (c3 a), fun i j hi => by omega, fun i hi => by omega⟩, c12, c13, fun i hi => Or.inl ⟨m10 i hi, c14 i⟩, Or.inl ⟨m4, c15⟩, Or.inl ⟨m5, c16⟩⟩, c17.trans m6.symm, c18.trans m7.symm, c19.trans m8.symm, 0, c20, m9, by omega, by omega⟩
  have e : i = 0 := by omega
  subst e
  exact ⟨c5, c6, by rw [if_neg (by omega)]; exact c7⟩
/-- all that stood stands, and no THING is new -/
def Fz (σ τ : Sg) : Prop := GZ τ ∧ hs σ ≤ hs τ ∧ (∀ a, a < hs σ → gc τ a = gc σ a ∧ gl τ a = gl σ a ∧ (∀ f, gi τ f a = gi σ f a) ∧ (∀ f, gj τ f a = gj σ f a) ∧ (∀ f, gp τ f a = gp σ f a) ∧ ∀ i, ap τ a i = ap σ a i) ∧ (∀ a, hs σ ≤ a → gc τ a ≠ 7)
theorem Fz.rf (hZ : GZ σ) : Fz σ σ := ⟨hZ, Nat.le_refl _, fun a _ => ⟨rfl, rfl, fun _ => rfl, fun _ => rfl, fun _ => rfl, fun _ => rfl⟩, fun a ha q => by have := hZ a (by omega); omega⟩
theorem Fz.nw (z : Fz σ τ) {c : Nat} (hc : c ≠ 7) : Fz σ (nw τ c) := by
  obtain ⟨z1, z2, z3, z4⟩ := z
  refine ⟨(AgO.nw z1).1, by rw [q_hs_nw]; omega, fun a ha => ?_, fun a ha => ?_⟩
  · obtain ⟨y1, y2, y3, y4, y5, y6⟩ := z3 a ha
    have n : ¬ a = hs τ := by omega
    exact ⟨by rw [q_gc_nw, if_neg n]; exact y1, y2, fun f => by rw [q_gi_nw, if_neg n]; exact y3 f, fun f => by rw [q_gj_nw, if_neg n]; exact y4 f, fun f => by rw [q_gp_nw, if_neg n]; exact y5 f, y6⟩
  · rw [q_gc_nw]
    split
    · exact hc
    · exact z4 a ha
theorem Fz.na (z : Fz σ τ) {c n : Nat} (hc : c ≠ 7) : Fz σ (na τ c n) := by
  obtain ⟨z1, z2, z3, z4⟩ := z
  refine ⟨(AgO.na z1).1, by rw [q_hs_na]; omega, fun a ha => ?_, fun a ha => ?_⟩
  · obtain ⟨y1, y2, y3, y4, y5, y6⟩ := z3 a ha
    have n : ¬ a = hs τ := by omega
    exact ⟨by rw [q_gc_na, if_neg n]; exact y1, by rw [q_gl_na, if_neg n]; exact y2, y3, y4, y5, fun i => by rw [q_ap_na, if_neg n]; exact y6 i⟩
  · rw [q_gc_na]
    split
    · exact hc
    · exact z4 a ha
theorem Fz.si (z : Fz σ τ) {f a : Nat} {v : Int32} (ha : hs σ ≤ a) : Fz σ (si τ f a v) := by
  obtain ⟨z1, z2, z3, z4⟩ := z
  refine ⟨z1, z2, fun b hb => ?_, z4⟩
  obtain ⟨y1, y2, y3, y4, y5, y6⟩ := z3 b hb
  exact ⟨y1, y2, fun g => by rw [q_gi_si, if_neg (by omega)]; exact y3 g, y4, y5, y6⟩
theorem Fz.sp (z : Fz σ τ) {f a : Nat} {v : Option Nat} (ha : hs σ ≤ a) : Fz σ (sp τ f a v) := by
  obtain ⟨z1, z2, z3, z4⟩ := z
  refine ⟨z1, z2, fun b hb => ?_, z4⟩
  obtain ⟨y1, y2, y3, y4, y5, y6⟩ := z3 b hb
  exact ⟨y1, y2, y3, y4, fun g => by rw [q_gp_sp, if_neg (by omega)]; exact y5 g, y6⟩
theorem Fz.wi (z : Fz σ τ) {a i : Nat} {v : Int32} : Fz σ (wi τ a i v) := ⟨z.1, z.2.1, z.2.2.1, z.2.2.2⟩
theorem Fz.o (z : Fz σ τ) (hZ : GZ σ) : AgO σ τ := by
  obtain ⟨z1, z2, z3, z4⟩ := z
  exact ⟨z1, fun a ha => ⟨(z3 a (hZ a ha)).1, (z3 a (hZ a ha)).2.1⟩, fun a f ha _ => (z3 a (hZ a ha)).2.2.1 f, fun a ha => (z3 a (hZ a ha)).2.2.2.1 402, fun a f ha _ => (z3 a (hZ a ha)).2.2.2.2.1 f, fun a i ha => (z3 a (hZ a (by omega))).2.2.2.2.2 i⟩
theorem ID.fz (I : ID d σ μ x pg mc mk sa ls es Fr F N Tn Pn) (z : Fz σ τ) : ID d τ μ x pg mc mk sa ls es Fr F N Tn Pn := by
  obtain ⟨h, i1, i2, i3, S, i4, i5, i6, i7⟩ := I
  have hZ := h.2.1
  have o := z.o hZ
  obtain ⟨z1, z2, z3, z4⟩ := z
  have a3 : mc < hs σ := hZ mc (by have := h.1.2.1; omega)
  have a4 : mk < hs σ := hZ mk (by have := h.1.2.2.2.1; omega)
  have a12 : sa < hs σ := hZ sa (by have := h.1.2.2.2.2.2.1; omega)
  have lt : ∀ a, gc σ a = 7 → a < hs σ := fun a ha => hZ a (by omega)
  refine ⟨h.ag o ⟨fun a => ⟨fun ha => ?_, fun ha => ?_⟩, fun a ha => ?_, fun q hq _ => ?_⟩ ⟨(z3 mk a4).2.2.1 300, (z3 mk a4).2.2.1 301, (z3 sa a12).2.2.2.2.2, (z3 mc a3).2.2.2.2.1 205, (z3 mc a3).2.2.2.2.1 206⟩ ⟨rfl, fun _ => ⟨rfl, rfl, rfl, rfl⟩⟩ ⟨rfl, rfl, fun _ => ⟨rfl, rfl, rfl, rfl, rfl⟩⟩ ⟨fun _ => rfl, rfl, rfl⟩, by rw [(z3 mc a3).2.2.1 211]; exact i1, by rw [(z3 mc a3).2.2.1 212]; exact i2, by rw [(z3 mc a3).2.2.1 210]; exact i3, S, by rw [(z3 mc a3).2.2.1 207]; exact i4, i5, i6, i7⟩
  · by_cases q : a < hs σ
    · rw [(z3 a q).1] at ha; exact ha
    · exact absurd ha (z4 a (by omega))
  · rw [(z3 a (lt a ha)).1]; exact ha
  · obtain ⟨y1, y2, y3, y4, y5, y6⟩ := z3 a (lt a ha)
    exact ⟨y3 600, y3 601, y4 602, y5 603, y5 604, y3 605, y5 606⟩
  · obtain ⟨y1, y2, y3, y4, y5, y6⟩ := z3 q (hZ q (by omega))
    exact ⟨y1, y2, y6⟩
end INIT
