section LAWL
variable {d : Dp} {σ τ ρ : Sg} {μ ν : Mu} {x m pg mc mk sa ls es es' L : Nat} {ma : Nat → Nat} {Fr Fr' : Nat → Nat} {F N N' Tn Tm Pn Pm : Nat} {xs : Nat → Int32}
theorem lw_go {c : Nat} (h : 5 * c + 5 ≤ L) (hL : L ≤ 2560) : ¬ Int32.ofNat L - 5 < nI (5 * c) := by
  rw [show Int32.ofNat L - 5 = nI L - nI 5 from rfl, pk_sub (by omega), nI_ltI (by omega) (by omega)]
  omega
theorem lw_no {c : Nat} (h : ¬ 5 * c + 5 ≤ L) (hL : L ≤ 2560) (hc : c ≤ 512) : Int32.ofNat L - 5 < nI (5 * c) := by
  rw [show Int32.ofNat L - 5 = nI L - nI 5 from rfl]
  by_cases q : 5 ≤ L
  · rw [pk_sub q, nI_ltI (by omega) (by omega)]
    omega
  · have a := pk_sneg (a := L) (b := 5) (by omega) (by omega)
    rw [Int32.lt_iff_toInt_lt] at a ⊢
    rw [nI_toInt (by omega)]
    rw [show (0 : Int32).toInt = 0 from by decide] at a
    omega
theorem lw_ix {c j : Nat} (h : 5 * c + 5 ≤ L) (hL : L ≤ 2560) (hj : j < 5) : ¬ (nI (5 * c) + nI j < 0 ∨ L ≤ Int32.toNatClampNeg (nI (5 * c) + nI j)) := by
  rw [nI_add, nI_clamp (by omega)]
  intro q
  rcases q with q | q
  · exact nI_nl (by omega) q
  · omega
theorem lg_cmp0 (r : Int64) : lg_cmp r r = 0 := by
  unfold lg_cmp
  simp
/-- how the law's rest ends -/
def LE (L : Nat) (xs : Nat → Int32) (f : Nat) (d : Dp) (σ : Sg) (x m : Nat) (v : Int32) (kc nc : Nat) : Prop := ∃ τ k n, lp_L_law L xs f d σ (some x) (some m) v kc nc = some (1, τ, k, n) ∧ k ≤ 600000 ∧ n ≤ 7302250
theorem law_loop (hL : L ≤ 2560) : ∀ f c σ es Fr F N Tn Pn kc nc, f + c = 600 → c ≤ 512 → MS σ m ma → ID d σ (Vw σ m ma) x pg mc mk sa ls es Fr F N Tn Pn → N ≤ c → kc ≤ 100 + 2 * Tn + F + 2 * c → nc ≤ 294000 + 7 * Tn + Pn + 10 * F + 806 * c → LE L xs f d σ x m (nI (5 * c)) kc nc := by
  intro f
  induction f with
  | zero => intro c _ _ _ _ _ _ _ _ _ e1 e2; omega
  | succ f ih =>
    intro c σ es Fr F N Tn Pn kc nc e1 e2 M I hN hk hn
    have hF : F ≤ 200 := I.1.2.2.1.1
    have hT : Tn ≤ 50000 := I.1.2.2.2.2.1.1
    have hP : Pn ≤ 20000 := I.1.2.2.2.2.1.2.1
    have c8 : gc σ x = 8 := I.1.1.1
    have c9 : gc σ m = 9 := M.1
    unfold LE
    rw [lp_L_law]
    by_cases g : 5 * c + 5 ≤ L
    · have e5 : nI (5 * c) + 5 = nI (5 * (c + 1)) := by rw [show (5 : Int32) = nI 5 from rfl, nI_add]; rfl
      have GO : ∀ τ es' Fr' F' N' Tm Pm k n, MS τ m ma → ID d τ (Vw τ m ma) x pg mc mk sa ls es' Fr' F' N' Tm Pm → N' ≤ c + 1 → k ≤ 100 + 2 * Tm + F' + 2 * (c + 1) → n ≤ 294000 + 7 * Tm + Pm + 10 * F' + 806 * (c + 1) → LE L xs f d τ x m (nI (5 * c) + 5) k n := fun τ es' Fr' F' N' Tm Pm k n M' I' q1 q2 q3 => by
        rw [e5]
        exact ih (c + 1) τ es' Fr' F' N' Tm Pm k n (by omega) (by omega) M' I' q1 q2 q3
      have i0 : ¬ (nI (5 * c) < 0 ∨ L ≤ Int32.toNatClampNeg (nI (5 * c))) := by
        rw [nI_clamp (by omega)]
        intro q
        rcases q with q | q
        · exact nI_nl (by omega) q
        · omega
      have i1 : ¬ (nI (5 * c) + 1 < 0 ∨ L ≤ Int32.toNatClampNeg (nI (5 * c) + 1)) := lw_ix (j := 1) g hL (by omega)
      have i2 : ¬ (nI (5 * c) + 2 < 0 ∨ L ≤ Int32.toNatClampNeg (nI (5 * c) + 2)) := lw_ix (j := 2) g hL (by omega)
      have i3 : ¬ (nI (5 * c) + 3 < 0 ∨ L ≤ Int32.toNatClampNeg (nI (5 * c) + 3)) := lw_ix (j := 3) g hL (by omega)
      have i4 : ¬ (nI (5 * c) + 4 < 0 ∨ L ≤ Int32.toNatClampNeg (nI (5 * c) + 4)) := lw_ix (j := 4) g hL (by omega)
      have hN5 : N < 512 := by omega
      rw [if_neg (lw_go g hL), if_pos i0]
      generalize xs (Int32.toNatClampNeg (nI (5 * c))) &&& (15 : Int32) = t
      simp only [i1, i2, i3, i4, not_false_eq_true, if_true, Option.bind_some, c8]
      generalize xs (Int32.toNatClampNeg (nI (5 * c) + 1)) = a1
      generalize xs (Int32.toNatClampNeg (nI (5 * c) + 2)) = a2
      generalize xs (Int32.toNatClampNeg (nI (5 * c) + 3)) = a3
      generalize xs (Int32.toNatClampNeg (nI (5 * c) + 4)) = a4
      by_cases t0 : t = 0
      · rw [if_pos t0]
        obtain ⟨r, τ, τ', es', k, n, q1, q2, q3, q4, q5, q6, q7⟩ := jn_lit M I hN5 ((a1.toInt64 <<< (Int32.toInt64 32 &&& 63)) ||| (a2.toInt64 &&& 4294967295))
        rw [q1, b4_some, if_pos q2, q3, b2_some, if_pos rfl]
        exact GO τ' es' Fr F (N + 1) Tn Pn _ _ q4 q7 (by omega) (by omega) (by omega)
      rw [if_neg t0]
      by_cases t1 : t = 1
      · rw [if_pos t1]
        obtain ⟨r, τ, τ', es', N', k, n, q1, q2, q3, q4, q5, q6, q7, q8⟩ := jn_node M I hN5 a1 a2 a3 a4
        rw [q1, b4_some, if_pos q2, q3, b2_some, if_pos rfl]
        exact GO τ' es' Fr F N' Tn Pn _ _ q4 q8 (by omega) (by omega) (by omega)
      rw [if_neg t1]
      by_cases t2 : t = 2
      · rw [if_pos t2]
        obtain ⟨r, τ, τ', q1, q2, q3, q4, q5⟩ := jn_part M I a1 a2 a3
        rw [q1, b2_some, if_pos q2, q3, b2_some, if_pos rfl]
        exact GO τ' es Fr F N Tn Pn _ _ q4 q5 (by omega) (by omega) (by omega)
      rw [if_neg t2]
      by_cases t3 : t = 3
      · rw [if_pos t3]
        obtain ⟨r, τ, τ', k, n, Fr', F', Tm, Pm, q1, q2, q3, q4, q5, q6, q7, q8, q9, q10⟩ := jn_run M I a1 a2
        rw [q1, b4_some, if_pos q2, q3, b2_some, if_pos rfl]
        exact GO τ' es Fr' F' N Tm Pm _ _ q4 q10 (by omega) (by omega) (by omega)
      rw [if_neg t3]
      by_cases t4 : t = 4
      · rw [if_pos t4]
        obtain ⟨r, τ', q1, q3, q4, q5⟩ := jn_value M I a1
        rw [q1, b2_some, if_pos c9, q3, b2_some, if_pos (lg_cmp0 r)]
        exact GO τ' es Fr F N Tn Pn _ _ q4 q5 (by omega) (by omega) (by omega)
      rw [if_neg t4]
      by_cases t5 : t = 5
      · rw [if_pos t5]
        obtain ⟨r, τ', q1, q3, q4, q5⟩ := jn_thing M I a1 a2
        rw [q1, b2_some, if_pos c9, q3, b2_some, if_pos rfl]
        exact GO τ' es Fr F N Tn Pn _ _ q4 q5 (by omega) (by omega) (by omega)
      rw [if_neg t5]
      by_cases t6 : t = 6
      · rw [if_pos t6]
        obtain ⟨r, τ', q1, q3, q4, q5⟩ := jn_fault M I
        rw [q1, b2_some, if_pos c9, q3, b2_some, if_pos rfl]
        exact GO τ' es Fr F N Tn Pn _ _ q4 q5 (by omega) (by omega) (by omega)
      rw [if_neg t6]
      by_cases t7 : t = 7
      · rw [if_pos t7]
        obtain ⟨r, τ', q1, q3, q4, q5⟩ := jn_faultNode M I
        rw [q1, b2_some, if_pos c9, q3, b2_some, if_pos rfl]
        exact GO τ' es Fr F N Tn Pn _ _ q4 q5 (by omega) (by omega) (by omega)
      rw [if_neg t7]
      by_cases t8 : t = 8
      · rw [if_pos t8]
        obtain ⟨r, τ', q1, q3, q4, q5⟩ := jn_steps M I
        rw [q1, b2_some, if_pos c9, q3, b2_some, if_pos rfl]
        exact GO τ' es Fr F N Tn Pn _ _ q4 q5 (by omega) (by omega) (by omega)
      rw [if_neg t8]
      by_cases t9 : t = 9
      · rw [if_pos t9]
        obtain ⟨τ, τ', q1, q2, q3, q4, q5⟩ := jn_wipe M I
        rw [q1, b2_some, if_pos q2, q3, b2_some]
        exact GO τ' es Fr F 0 Tn Pn _ _ q4 q5 (by omega) (by omega) (by omega)
      rw [if_neg t9]
      exact GO σ es Fr F N Tn Pn _ _ M I (by omega) (by omega) (by omega)
    · rw [if_pos (lw_no g hL e2)]
      exact ⟨σ, kc, nc, rfl, by omega, by omega⟩
end LAWL
