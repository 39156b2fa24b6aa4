section ACTALL
variable {d : Dp} {σ : Sg} {μ : Mu} {x pg mc mk sa ls es : Nat} {Fr : Nat → Nat} {F N Tn Pn w fa nb o : Nat} {va vb vc : Int32}
/-- every OP that is worked in order: what it comes to -/
theorem act_all (H : HA d σ μ x pg mc mk sa ls es Fr F N Tn Pn w fa nb o va vb vc) (h1 : o ≠ 15) (h2 : o ≠ 19) (h3 : o ≠ 20) (h4 : o = 18 → pr σ Tn (gp σ 108 fa) vb) : AR d σ μ x pg mc mk sa ls es Fr F N Tn Pn w fa va vb vc := by
  have ho : o ≤ 20 := H.2.2.2.2.2.2.1
  rcases (show o = 0 ∨ o = 1 ∨ o = 2 ∨ o = 3 ∨ o = 4 ∨ o = 5 ∨ o = 6 ∨ o = 7 ∨ o = 8 ∨ o = 9 ∨ o = 10 ∨ o = 11 ∨ o = 12 ∨ o = 13 ∨ o = 14 ∨ o = 16 ∨ o = 17 ∨ o = 18 by omega) with rfl | rfl | rfl | rfl | rfl | rfl | rfl | rfl | rfl | rfl | rfl | rfl | rfl | rfl | rfl | rfl | rfl | rfl
  · exact act_0 H
  · exact act_1 H
  · exact act_2 H
  · exact act_3 H
  · exact act_4 H
  · exact act_5 H
  · exact act_6 H
  · exact act_7 H
  · exact act_8 H
  · exact act_9 H
  · exact act_10 H
  · exact act_11 H
  · exact act_12 H
  · exact act_13 H
  · exact act_14 H
  · exact act_16 H
  · exact act_17 H
  · exact act_18 H (h4 rfl)
end ACTALL
