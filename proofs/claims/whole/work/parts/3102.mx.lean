def mx_X7_again (μ : Mu) (p1 : Int32) : Option (Unit × Mu) := (if ¬ ((mS μ 818) < 0 ∨ 201 ≤ Int32.toNatClampNeg (mS μ 818)) then (if (mI μ 11 (Int32.toNatClampNeg (mS μ 818))) = (0 : Int32) then (b2 (mx_X7_part0 μ p1) fun r65 m64 => some ((), m64)) else (if ¬ ((mS μ 818) < 0 ∨ 201 ≤ Int32.toNatClampNeg (mS μ 818)) then (if (mI μ 11 (Int32.toNatClampNeg (mS μ 818))) = (1 : Int32) then (b2 (mx_X7_is μ p1 (mS μ 819) (1 : Int32)) fun r29 m28 => (if r29 = (0 : Int32) then some ((), m28) else (if ¬ ((mS m28 819) < 0 ∨ 50000 ≤ Int32.toNatClampNeg (mS m28 819)) then (if ¬ ((mS m28 818) < 0 ∨ 201 ≤ Int32.toNatClampNeg (mS m28 818)) then (bm (uJ m28 13 (Int32.toNatClampNeg (mS m28 818)) (mJ m28 7 (Int32.toNatClampNeg (mS m28 819)))) fun m40 => (bm (uS m40 819 (-1 : Int32)) fun m43 => (if ¬ ((mS m43 818) < 0 ∨ 201 ≤ Int32.toNatClampNeg (mS m43 818)) then (bm (uI m43 11 (Int32.toNatClampNeg (mS m43 818)) (2 : Int32)) fun m50 => (if ¬ ((mS m50 818) < 0 ∨ 201 ≤ Int32.toNatClampNeg (mS m50 818)) then (if (lg_cmp (mJ m50 13 (Int32.toNatClampNeg (mS m50 818))) (0 : Int64)) ≤ (0 : Int32) then (bm (uS m50 818 ((mS m50 818) - (1 : Int32))) fun m58 => some ((), m58)) else (b2 (mx_X7_begin m50 p1 (1 : Int32)) fun r62 m61 => some ((), m61))) else none)) else none))) else none) else none))) else (if ¬ ((mS μ 818) < 0 ∨ 201 ≤ Int32.toNatClampNeg (mS μ 818)) then (if ¬ ((mS μ 818) < 0 ∨ 201 ≤ Int32.toNatClampNeg (mS μ 818)) then (bm (uJ μ 13 (Int32.toNatClampNeg (mS μ 818)) ((mJ μ 13 (Int32.toNatClampNeg (mS μ 818))) - (1 : Int64))) fun m14 => (if ¬ ((mS m14 818) < 0 ∨ 201 ≤ Int32.toNatClampNeg (mS m14 818)) then (if (lg_cmp (mJ m14 13 (Int32.toNatClampNeg (mS m14 818))) (0 : Int64)) ≤ (0 : Int32) then (bm (uS m14 818 ((mS m14 818) - (1 : Int32))) fun m22 => some ((), m22)) else (b2 (mx_X7_begin m14 p1 (1 : Int32)) fun r26 m25 => some ((), m25))) else none)) else none) else none)) else none)) else none)
set_option maxHeartbeats 1000000 in
theorem mm_X7_again {d : Dp} {σ : Sg} {h0 : Nat} {ma : Nat → Nat} {p1 : Int32} {r : Unit} {μ' : Mu} (M0 : MS σ h0 ma) (hx : mx_X7_again (Vw σ h0 ma) p1 = some (r, μ')) : ∃ σ', ex_X7_again d σ h0 p1 = some (r, σ') ∧ MS σ' h0 ma ∧ Vw σ' h0 ma = μ' ∧ Fq σ σ' := by
  have F0 := Fq.rf σ
  unfold mx_X7_again at hx
  unfold ex_X7_again
  refine gck M0.g ?_
  refine gnn (M0.p 11 (by decide)) ?_
  refine gck (M0.c 11 (by decide)) ?_
  obtain ⟨g5, hx⟩ := ck hx
  refine gck (M0.b 11 (by decide) g5) ?_
  by_cases c6 : (ai σ (ma 11) (Int32.toNatClampNeg (gi σ 818 h0))) = (0 : Int32)
  · replace hx := ift c6 hx
    refine git c6 ?_
    obtain ⟨r65, m64, hy, hx⟩ := nb2 hx
    obtain ⟨s64, ey, Ms64, Vs64, Fs64⟩ := mm_X7_part0 (d := d) M0 hy
    subst Vs64
    replace Fs64 := F0.tr Fs64
    refine gb2 ey ?_
    obtain ⟨rfl, rfl⟩ := lf2 hx
    exact ⟨_, rfl, Ms64, rfl, Fs64⟩
  · replace hx := iff' c6 hx
    refine gif c6 ?_
    obtain ⟨g7, hx⟩ := ck hx
    refine gck (M0.b 11 (by decide) g7) ?_
    by_cases c8 : (ai σ (ma 11) (Int32.toNatClampNeg (gi σ 818 h0))) = (1 : Int32)
    · replace hx := ift c8 hx
      refine git c8 ?_
      obtain ⟨r29, m28, hy, hx⟩ := nb2 hx
      obtain ⟨s28, ey, Ms28, Vs28, Fs28⟩ := mm_X7_is (d := d) M0 hy
      subst Vs28
      replace Fs28 := F0.tr Fs28
      refine gb2 ey ?_
      by_cases c30 : r29 = (0 : Int32)
      · replace hx := ift c30 hx
        refine git c30 ?_
        obtain ⟨rfl, rfl⟩ := lf2 hx
        exact ⟨_, rfl, Ms28, rfl, Fs28⟩
      · replace hx := iff' c30 hx
        refine gif c30 ?_
        refine gck Ms28.g ?_
        refine gnn (Ms28.p 7 (by decide)) ?_
        refine gck (Ms28.c 7 (by decide)) ?_
        obtain ⟨g35, hx⟩ := ck hx
        refine gck (Ms28.b 7 (by decide) g35) ?_
        refine gnn (Ms28.p 13 (by decide)) ?_
        refine gck (Ms28.c 13 (by decide)) ?_
        obtain ⟨g39, hx⟩ := ck hx
        refine gck (Ms28.b 13 (by decide) g39) ?_
        obtain ⟨m40, em, hx⟩ := nbm hx
        refine gbn (fun s40 es => ?_)
        obtain ⟨Ms40, Vs40, Fs40⟩ := Ms28.upJ (k := 13) (by decide) es em
        subst Vs40
        replace Fs40 := Fs28.tr Fs40
        refine gck Ms40.g ?_
        obtain ⟨m43, em, hx⟩ := nbm hx
        refine gbn (fun s43 es => ?_)
        obtain ⟨Ms43, Vs43, Fs43⟩ := Ms40.upS (by decide) es em
        subst Vs43
        replace Fs43 := Fs40.tr Fs43
        refine gck Ms43.g ?_
        refine gnn (Ms43.p 11 (by decide)) ?_
        refine gck (Ms43.c 11 (by decide)) ?_
        obtain ⟨g49, hx⟩ := ck hx
        refine gck (Ms43.b 11 (by decide) g49) ?_
        obtain ⟨m50, em, hx⟩ := nbm hx
        refine gbn (fun s50 es => ?_)
        obtain ⟨Ms50, Vs50, Fs50⟩ := Ms43.upI (k := 11) (by decide) es em
        subst Vs50
        replace Fs50 := Fs43.tr Fs50
        refine gck Ms50.g ?_
        refine gnn (Ms50.p 13 (by decide)) ?_
        refine gck (Ms50.c 13 (by decide)) ?_
        obtain ⟨g56, hx⟩ := ck hx
        refine gck (Ms50.b 13 (by decide) g56) ?_
        by_cases c57 : (lg_cmp (aj s50 (ma 13) (Int32.toNatClampNeg (gi s50 818 h0))) (0 : Int64)) ≤ (0 : Int32)
        · replace hx := ift c57 hx
          refine git c57 ?_
          obtain ⟨m58, em, hx⟩ := nbm hx
          refine gbn (fun s58 es => ?_)
          obtain ⟨Ms58, Vs58, Fs58⟩ := Ms50.upS (by decide) es em
          subst Vs58
          replace Fs58 := Fs50.tr Fs58
          obtain ⟨rfl, rfl⟩ := lf2 hx
          exact ⟨_, rfl, Ms58, rfl, Fs58⟩
        · replace hx := iff' c57 hx
          refine gif c57 ?_
          obtain ⟨r62, m61, hy, hx⟩ := nb2 hx
          obtain ⟨s61, ey, Ms61, Vs61, Fs61⟩ := mm_X7_begin (d := d) Ms50 hy
          subst Vs61
          replace Fs61 := Fs50.tr Fs61
          refine gb2 ey ?_
          obtain ⟨rfl, rfl⟩ := lf2 hx
          exact ⟨_, rfl, Ms61, rfl, Fs61⟩
    · replace hx := iff' c8 hx
      refine gif c8 ?_
      refine gnn (M0.p 13 (by decide)) ?_
      refine gck (M0.c 13 (by decide)) ?_
      obtain ⟨g12, hx⟩ := ck hx
      refine gck (M0.b 13 (by decide) g12) ?_
      obtain ⟨g13, hx⟩ := ck hx
      refine gck (M0.b 13 (by decide) g13) ?_
      obtain ⟨m14, em, hx⟩ := nbm hx
      refine gbn (fun s14 es => ?_)
      obtain ⟨Ms14, Vs14, Fs14⟩ := M0.upJ (k := 13) (by decide) es em
      subst Vs14
      replace Fs14 := F0.tr Fs14
      refine gck Ms14.g ?_
      refine gnn (Ms14.p 13 (by decide)) ?_
      refine gck (Ms14.c 13 (by decide)) ?_
      obtain ⟨g20, hx⟩ := ck hx
      refine gck (Ms14.b 13 (by decide) g20) ?_
      by_cases c21 : (lg_cmp (aj s14 (ma 13) (Int32.toNatClampNeg (gi s14 818 h0))) (0 : Int64)) ≤ (0 : Int32)
      · replace hx := ift c21 hx
        refine git c21 ?_
        obtain ⟨m22, em, hx⟩ := nbm hx
        refine gbn (fun s22 es => ?_)
        obtain ⟨Ms22, Vs22, Fs22⟩ := Ms14.upS (by decide) es em
        subst Vs22
        replace Fs22 := Fs14.tr Fs22
        obtain ⟨rfl, rfl⟩ := lf2 hx
        exact ⟨_, rfl, Ms22, rfl, Fs22⟩
      · replace hx := iff' c21 hx
        refine gif c21 ?_
        obtain ⟨r26, m25, hy, hx⟩ := nb2 hx
        obtain ⟨s25, ey, Ms25, Vs25, Fs25⟩ := mm_X7_begin (d := d) Ms14 hy
        subst Vs25
        replace Fs25 := Fs14.tr Fs25
        refine gb2 ey ?_
        obtain ⟨rfl, rfl⟩ := lf2 hx
        exact ⟨_, rfl, Ms25, rfl, Fs25⟩
def mx_X7_noSlot (μ : Mu) (p1 : Int32) (p2 : Int32) : Option (Int32 × Mu) := (if p2 < (0 : Int32) then (b2 (mx_X7_fail μ (2 : Int32) p1) fun r5 m4 => some ((1 : Int32), m4)) else (if (256 : Int32) ≤ p2 then (b2 (mx_X7_fail μ (2 : Int32) p1) fun r10 m9 => some ((1 : Int32), m9)) else some ((0 : Int32), μ)))
set_option maxHeartbeats 1000000 in
theorem mm_X7_noSlot {d : Dp} {σ : Sg} {h0 : Nat} {ma : Nat → Nat} {p1 : Int32} {p2 : Int32} {r : Int32} {μ' : Mu} (M0 : MS σ h0 ma) (hx : mx_X7_noSlot (Vw σ h0 ma) p1 p2 = some (r, μ')) : ∃ σ', ex_X7_noSlot d σ h0 p1 p2 = some (r, σ') ∧ MS σ' h0 ma ∧ Vw σ' h0 ma = μ' ∧ Fq σ σ' := by
  have F0 := Fq.rf σ
  unfold mx_X7_noSlot at hx
  unfold ex_X7_noSlot
  by_cases c1 : p2 < (0 : Int32)
  · replace hx := ift c1 hx
    refine git c1 ?_
    refine gck M0.g ?_
    obtain ⟨r5, m4, hy, hx⟩ := nb2 hx
    obtain ⟨s4, ey, Ms4, Vs4, Fs4⟩ := mm_X7_fail (d := d) M0 hy
    subst Vs4
    replace Fs4 := F0.tr Fs4
    refine gb2 ey ?_
    obtain ⟨rfl, rfl⟩ := lf2 hx
    exact ⟨_, rfl, Ms4, rfl, Fs4⟩
  · replace hx := iff' c1 hx
    refine gif c1 ?_
    by_cases c6 : (256 : Int32) ≤ p2
    · replace hx := ift c6 hx
      refine git c6 ?_
      refine gck M0.g ?_
      obtain ⟨r10, m9, hy, hx⟩ := nb2 hx
      obtain ⟨s9, ey, Ms9, Vs9, Fs9⟩ := mm_X7_fail (d := d) M0 hy
      subst Vs9
      replace Fs9 := F0.tr Fs9
      refine gb2 ey ?_
      obtain ⟨rfl, rfl⟩ := lf2 hx
      exact ⟨_, rfl, Ms9, rfl, Fs9⟩
    · replace hx := iff' c6 hx
      refine gif c6 ?_
      obtain ⟨rfl, rfl⟩ := lf2 hx
      exact ⟨_, rfl, M0, rfl, F0⟩
def mx_X7_simple (μ : Mu) (p1 : Int32) (p2 : Int32) (p3 : Int32) (p4 : Int32) : Option (Int32 × Mu) := (if ¬ (p1 < 0 ∨ 4000 ≤ Int32.toNatClampNeg p1) then (if (mI μ 1 (Int32.toNatClampNeg p1)) = 0 then (if ¬ (p1 < 0 ∨ 4000 ≤ Int32.toNatClampNeg p1) then (b2 (mx_X7_num μ (mJ μ 3 (Int32.toNatClampNeg p1))) fun r13 m12 => some (r13, m12)) else none) else (if (mI μ 1 (Int32.toNatClampNeg p1)) = 1 then (b2 (mx_X7_number μ p1 (0 : Int32)) fun r17 m16 => (b2 (mx_X7_noSlot m16 p1 r17) fun r21 m20 => (if r21 = (0 : Int32) then (b2 (mx_X7_number m20 p1 (0 : Int32)) fun r26 m25 => (if ¬ (r26 < 0 ∨ 256 ≤ Int32.toNatClampNeg r26) then some (mI m25 9 (Int32.toNatClampNeg r26), m25) else none)) else some ((-1 : Int32), m20)))) else (if (mI μ 1 (Int32.toNatClampNeg p1)) = 2 then (b2 (mx_X7_number μ p1 (0 : Int32)) fun r34 m33 => (b2 (mx_X7_noSlot m33 p1 r34) fun r38 m37 => (if r38 = (0 : Int32) then (b2 (mx_X7_number m37 p1 (0 : Int32)) fun r43 m42 => (if ¬ (r43 < 0 ∨ 256 ≤ Int32.toNatClampNeg r43) then (bm (uI m42 9 (Int32.toNatClampNeg r43) p3) fun m48 => some (p3, m48)) else none)) else some ((-1 : Int32), m37)))) else (if (mI μ 1 (Int32.toNatClampNeg p1)) = 3 then (b2 (mx_X7_make μ (2 : Int32) (0 : Int64) p2 p3) fun r53 m52 => some (r53, m52)) else (if (mI μ 1 (Int32.toNatClampNeg p1)) = 4 then (b2 (mx_X7_make μ (3 : Int32) (0 : Int64) p2 p3) fun r57 m56 => some (r57, m56)) else (if (mI μ 1 (Int32.toNatClampNeg p1)) = 5 then (b2 (mx_X7_make μ (4 : Int32) (0 : Int64) p2 (-1 : Int32)) fun r61 m60 => some (r61, m60)) else (if (mI μ 1 (Int32.toNatClampNeg p1)) = 6 then (b2 (mx_X7_is μ p1 p2 (2 : Int32)) fun r65 m64 => (if r65 = (0 : Int32) then some ((-1 : Int32), m64) else (b2 (mx_X7_number m64 p1 (1 : Int32)) fun r70 m69 => (if r70 = (0 : Int32) then (if ¬ (p2 < 0 ∨ 50000 ≤ Int32.toNatClampNeg p2) then some (mI m69 5 (Int32.toNatClampNeg p2), m69) else none) else (if ¬ (p2 < 0 ∨ 50000 ≤ Int32.toNatClampNeg p2) then some (mI m69 6 (Int32.toNatClampNeg p2), m69) else none))))) else (if (mI μ 1 (Int32.toNatClampNeg p1)) = 7 then (b2 (mx_X7_is μ p1 p2 (2 : Int32)) fun r85 m84 => (if r85 = (0 : Int32) then some ((-1 : Int32), m84) else (b2 (mx_X7_number m84 p1 (1 : Int32)) fun r90 m89 => (if r90 = (0 : Int32) then (if ¬ (p2 < 0 ∨ 50000 ≤ Int32.toNatClampNeg p2) then (bm (uI m89 5 (Int32.toNatClampNeg p2) p4) fun m104 => some (p4, m104)) else none) else (if ¬ (p2 < 0 ∨ 50000 ≤ Int32.toNatClampNeg p2) then (bm (uI m89 6 (Int32.toNatClampNeg p2) p4) fun m97 => some (p4, m97)) else none))))) else (if (mI μ 1 (Int32.toNatClampNeg p1)) = 8 then (b2 (mx_X7_is μ p1 p2 (3 : Int32)) fun r109 m108 => (if r109 = (0 : Int32) then some ((-1 : Int32), m108) else (if ¬ (p2 < 0 ∨ 50000 ≤ Int32.toNatClampNeg p2) then some (mI m108 5 (Int32.toNatClampNeg p2), m108) else none))) else (b2 (mx_X7_is μ p1 p2 (3 : Int32)) fun r118 m117 => (if r118 = (0 : Int32) then some ((-1 : Int32), m117) else (if ¬ (p2 < 0 ∨ 50000 ≤ Int32.toNatClampNeg p2) then some (mI m117 6 (Int32.toNatClampNeg p2), m117) else none)))))))))))) else none)
set_option maxHeartbeats 1000000 in
theorem mm_X7_simple {d : Dp} {σ : Sg} {h0 : Nat} {ma : Nat → Nat} {p1 : Int32} {p2 : Int32} {p3 : Int32} {p4 : Int32} {r : Int32} {μ' : Mu} (M0 : MS σ h0 ma) (hx : mx_X7_simple (Vw σ h0 ma) p1 p2 p3 p4 = some (r, μ')) : ∃ σ', ex_X7_simple d σ h0 p1 p2 p3 p4 = some (r, σ') ∧ MS σ' h0 ma ∧ Vw σ' h0 ma = μ' ∧ Fq σ σ' := by
  have F0 := Fq.rf σ
  unfold mx_X7_simple at hx
  unfold ex_X7_simple
  refine gck M0.g ?_
  refine gnn (M0.p 1 (by decide)) ?_
  refine gck (M0.c 1 (by decide)) ?_
  obtain ⟨g5, hx⟩ := ck hx
  refine gck (M0.b 1 (by decide) g5) ?_
  by_cases c6 : (ai σ (ma 1) (Int32.toNatClampNeg p1)) = 0
  · replace hx := ift c6 hx
    refine git c6 ?_
    refine gnn (M0.p 3 (by decide)) ?_
    refine gck (M0.c 3 (by decide)) ?_
    obtain ⟨g10, hx⟩ := ck hx
    refine gck (M0.b 3 (by decide) g10) ?_
    obtain ⟨r13, m12, hy, hx⟩ := nb2 hx
    obtain ⟨s12, ey, Ms12, Vs12, Fs12⟩ := mm_X7_num (d := d) M0 hy
    subst Vs12
    replace Fs12 := F0.tr Fs12
    refine gb2 ey ?_
    obtain ⟨rfl, rfl⟩ := lf2 hx
    exact ⟨_, rfl, Ms12, rfl, Fs12⟩
  · replace hx := iff' c6 hx
    refine gif c6 ?_
    by_cases c14 : (ai σ (ma 1) (Int32.toNatClampNeg p1)) = 1
    · replace hx := ift c14 hx
      refine git c14 ?_
      obtain ⟨r17, m16, hy, hx⟩ := nb2 hx
      obtain ⟨s16, ey, Ms16, Vs16, Fs16⟩ := mm_X7_number (d := d) M0 hy
      subst Vs16
      replace Fs16 := F0.tr Fs16
      refine gb2 ey ?_
      refine gck Ms16.g ?_
      obtain ⟨r21, m20, hy, hx⟩ := nb2 hx
      obtain ⟨s20, ey, Ms20, Vs20, Fs20⟩ := mm_X7_noSlot (d := d) Ms16 hy
      subst Vs20
      replace Fs20 := Fs16.tr Fs20
      refine gb2 ey ?_
      by_cases c22 : r21 = (0 : Int32)
      · replace hx := ift c22 hx
        refine git c22 ?_
        refine gck Ms20.g ?_
        obtain ⟨r26, m25, hy, hx⟩ := nb2 hx
        obtain ⟨s25, ey, Ms25, Vs25, Fs25⟩ := mm_X7_number (d := d) Ms20 hy
        subst Vs25
        replace Fs25 := Fs20.tr Fs25
        refine gb2 ey ?_
        refine gnn (Ms20.p 9 (by decide)) ?_
        refine gck (Ms25.c 9 (by decide)) ?_
        obtain ⟨g30, hx⟩ := ck hx
        refine gck (Ms25.b 9 (by decide) g30) ?_
        obtain ⟨rfl, rfl⟩ := lf2 hx
        exact ⟨_, rfl, Ms25, rfl, Fs25⟩
      · replace hx := iff' c22 hx
        refine gif c22 ?_
        obtain ⟨rfl, rfl⟩ := lf2 hx
        exact ⟨_, rfl, Ms20, rfl, Fs20⟩
    · replace hx := iff' c14 hx
      refine gif c14 ?_
      by_cases c31 : (ai σ (ma 1) (Int32.toNatClampNeg p1)) = 2
      · replace hx := ift c31 hx
        refine git c31 ?_
        obtain ⟨r34, m33, hy, hx⟩ := nb2 hx
        obtain ⟨s33, ey, Ms33, Vs33, Fs33⟩ := mm_X7_number (d := d) M0 hy
        subst Vs33
        replace Fs33 := F0.tr Fs33
        refine gb2 ey ?_
        refine gck Ms33.g ?_
        obtain ⟨r38, m37, hy, hx⟩ := nb2 hx
        obtain ⟨s37, ey, Ms37, Vs37, Fs37⟩ := mm_X7_noSlot (d := d) Ms33 hy
        subst Vs37
        replace Fs37 := Fs33.tr Fs37
        refine gb2 ey ?_
        by_cases c39 : r38 = (0 : Int32)
        · replace hx := ift c39 hx
          refine git c39 ?_
          refine gck Ms37.g ?_
          obtain ⟨r43, m42, hy, hx⟩ := nb2 hx
          obtain ⟨s42, ey, Ms42, Vs42, Fs42⟩ := mm_X7_number (d := d) Ms37 hy
          subst Vs42
          replace Fs42 := Fs37.tr Fs42
          refine gb2 ey ?_
          refine gnn (Ms37.p 9 (by decide)) ?_
          refine gck (Ms42.c 9 (by decide)) ?_
          obtain ⟨g47, hx⟩ := ck hx
          refine gck (Ms42.b 9 (by decide) g47) ?_
          obtain ⟨m48, em, hx⟩ := nbm hx
          refine gbn (fun s48 es => ?_)
          obtain ⟨Ms48, Vs48, Fs48⟩ := Ms42.upI (k := 9) (by decide) es em
          subst Vs48
          replace Fs48 := Fs42.tr Fs48
          obtain ⟨rfl, rfl⟩ := lf2 hx
          exact ⟨_, rfl, Ms48, rfl, Fs48⟩
        · replace hx := iff' c39 hx
          refine gif c39 ?_
          obtain ⟨rfl, rfl⟩ := lf2 hx
          exact ⟨_, rfl, Ms37, rfl, Fs37⟩
      · replace hx := iff' c31 hx
        refine gif c31 ?_
        by_cases c50 : (ai σ (ma 1) (Int32.toNatClampNeg p1)) = 3
        · replace hx := ift c50 hx
          refine git c50 ?_
          obtain ⟨r53, m52, hy, hx⟩ := nb2 hx
          obtain ⟨s52, ey, Ms52, Vs52, Fs52⟩ := mm_X7_make (d := d) M0 hy
          subst Vs52
          replace Fs52 := F0.tr Fs52
          refine gb2 ey ?_
          obtain ⟨rfl, rfl⟩ := lf2 hx
          exact ⟨_, rfl, Ms52, rfl, Fs52⟩
        · replace hx := iff' c50 hx
          refine gif c50 ?_
          by_cases c54 : (ai σ (ma 1) (Int32.toNatClampNeg p1)) = 4
          · replace hx := ift c54 hx
            refine git c54 ?_
            obtain ⟨r57, m56, hy, hx⟩ := nb2 hx
            obtain ⟨s56, ey, Ms56, Vs56, Fs56⟩ := mm_X7_make (d := d) M0 hy
            subst Vs56
            replace Fs56 := F0.tr Fs56
            refine gb2 ey ?_
            obtain ⟨rfl, rfl⟩ := lf2 hx
            exact ⟨_, rfl, Ms56, rfl, Fs56⟩
          · replace hx := iff' c54 hx
            refine gif c54 ?_
            by_cases c58 : (ai σ (ma 1) (Int32.toNatClampNeg p1)) = 5
            · replace hx := ift c58 hx
              refine git c58 ?_
              obtain ⟨r61, m60, hy, hx⟩ := nb2 hx
              obtain ⟨s60, ey, Ms60, Vs60, Fs60⟩ := mm_X7_make (d := d) M0 hy
              subst Vs60
              replace Fs60 := F0.tr Fs60
              refine gb2 ey ?_
              obtain ⟨rfl, rfl⟩ := lf2 hx
              exact ⟨_, rfl, Ms60, rfl, Fs60⟩
            · replace hx := iff' c58 hx
              refine gif c58 ?_
              by_cases c62 : (ai σ (ma 1) (Int32.toNatClampNeg p1)) = 6
              · replace hx := ift c62 hx
                refine git c62 ?_
                obtain ⟨r65, m64, hy, hx⟩ := nb2 hx
                obtain ⟨s64, ey, Ms64, Vs64, Fs64⟩ := mm_X7_is (d := d) M0 hy
                subst Vs64
                replace Fs64 := F0.tr Fs64
                refine gb2 ey ?_
                by_cases c66 : r65 = (0 : Int32)
                · replace hx := ift c66 hx
                  refine git c66 ?_
                  obtain ⟨rfl, rfl⟩ := lf2 hx
                  exact ⟨_, rfl, Ms64, rfl, Fs64⟩
                · replace hx := iff' c66 hx
                  refine gif c66 ?_
                  refine gck Ms64.g ?_
                  obtain ⟨r70, m69, hy, hx⟩ := nb2 hx
                  obtain ⟨s69, ey, Ms69, Vs69, Fs69⟩ := mm_X7_number (d := d) Ms64 hy
                  subst Vs69
                  replace Fs69 := Fs64.tr Fs69
                  refine gb2 ey ?_
                  by_cases c71 : r70 = (0 : Int32)
                  · replace hx := ift c71 hx
                    refine git c71 ?_
                    refine gck Ms69.g ?_
                    refine gnn (Ms69.p 5 (by decide)) ?_
                    refine gck (Ms69.c 5 (by decide)) ?_
                    obtain ⟨g81, hx⟩ := ck hx
                    refine gck (Ms69.b 5 (by decide) g81) ?_
                    obtain ⟨rfl, rfl⟩ := lf2 hx
                    exact ⟨_, rfl, Ms69, rfl, Fs69⟩
                  · replace hx := iff' c71 hx
                    refine gif c71 ?_
                    refine gck Ms69.g ?_
                    refine gnn (Ms69.p 6 (by decide)) ?_
                    refine gck (Ms69.c 6 (by decide)) ?_
                    obtain ⟨g76, hx⟩ := ck hx
                    refine gck (Ms69.b 6 (by decide) g76) ?_
                    obtain ⟨rfl, rfl⟩ := lf2 hx
                    exact ⟨_, rfl, Ms69, rfl, Fs69⟩
              · replace hx := iff' c62 hx
                refine gif c62 ?_
                by_cases c82 : (ai σ (ma 1) (Int32.toNatClampNeg p1)) = 7
                · replace hx := ift c82 hx
                  refine git c82 ?_
                  obtain ⟨r85, m84, hy, hx⟩ := nb2 hx
                  obtain ⟨s84, ey, Ms84, Vs84, Fs84⟩ := mm_X7_is (d := d) M0 hy
                  subst Vs84
                  replace Fs84 := F0.tr Fs84
                  refine gb2 ey ?_
                  by_cases c86 : r85 = (0 : Int32)
                  · replace hx := ift c86 hx
                    refine git c86 ?_
                    obtain ⟨rfl, rfl⟩ := lf2 hx
                    exact ⟨_, rfl, Ms84, rfl, Fs84⟩
                  · replace hx := iff' c86 hx
                    refine gif c86 ?_
                    refine gck Ms84.g ?_
                    obtain ⟨r90, m89, hy, hx⟩ := nb2 hx
                    obtain ⟨s89, ey, Ms89, Vs89, Fs89⟩ := mm_X7_number (d := d) Ms84 hy
                    subst Vs89
                    replace Fs89 := Fs84.tr Fs89
                    refine gb2 ey ?_
                    by_cases c91 : r90 = (0 : Int32)
                    · replace hx := ift c91 hx
                      refine git c91 ?_
                      refine gck Ms89.g ?_
                      refine gnn (Ms89.p 5 (by decide)) ?_
                      refine gck (Ms89.c 5 (by decide)) ?_
                      obtain ⟨g103, hx⟩ := ck hx
                      refine gck (Ms89.b 5 (by decide) g103) ?_
                      obtain ⟨m104, em, hx⟩ := nbm hx
                      refine gbn (fun s104 es => ?_)
                      obtain ⟨Ms104, Vs104, Fs104⟩ := Ms89.upI (k := 5) (by decide) es em
                      subst Vs104
                      replace Fs104 := Fs89.tr Fs104
                      obtain ⟨rfl, rfl⟩ := lf2 hx
                      exact ⟨_, rfl, Ms104, rfl, Fs104⟩
                    · replace hx := iff' c91 hx
                      refine gif c91 ?_
                      refine gck Ms89.g ?_
                      refine gnn (Ms89.p 6 (by decide)) ?_
                      refine gck (Ms89.c 6 (by decide)) ?_
                      obtain ⟨g96, hx⟩ := ck hx
                      refine gck (Ms89.b 6 (by decide) g96) ?_
                      obtain ⟨m97, em, hx⟩ := nbm hx
                      refine gbn (fun s97 es => ?_)
                      obtain ⟨Ms97, Vs97, Fs97⟩ := Ms89.upI (k := 6) (by decide) es em
                      subst Vs97
                      replace Fs97 := Fs89.tr Fs97
                      obtain ⟨rfl, rfl⟩ := lf2 hx
                      exact ⟨_, rfl, Ms97, rfl, Fs97⟩
                · replace hx := iff' c82 hx
                  refine gif c82 ?_
                  by_cases c106 : (ai σ (ma 1) (Int32.toNatClampNeg p1)) = 8
                  · replace hx := ift c106 hx
                    refine git c106 ?_
                    obtain ⟨r109, m108, hy, hx⟩ := nb2 hx
                    obtain ⟨s108, ey, Ms108, Vs108, Fs108⟩ := mm_X7_is (d := d) M0 hy
                    subst Vs108
                    replace Fs108 := F0.tr Fs108
                    refine gb2 ey ?_
                    by_cases c110 : r109 = (0 : Int32)
                    · replace hx := ift c110 hx
                      refine git c110 ?_
                      obtain ⟨rfl, rfl⟩ := lf2 hx
                      exact ⟨_, rfl, Ms108, rfl, Fs108⟩
                    · replace hx := iff' c110 hx
                      refine gif c110 ?_
                      refine gck Ms108.g ?_
                      refine gnn (Ms108.p 5 (by decide)) ?_
                      refine gck (Ms108.c 5 (by decide)) ?_
                      obtain ⟨g115, hx⟩ := ck hx
                      refine gck (Ms108.b 5 (by decide) g115) ?_
                      obtain ⟨rfl, rfl⟩ := lf2 hx
                      exact ⟨_, rfl, Ms108, rfl, Fs108⟩
                  · replace hx := iff' c106 hx
                    refine gif c106 ?_
                    obtain ⟨r118, m117, hy, hx⟩ := nb2 hx
                    obtain ⟨s117, ey, Ms117, Vs117, Fs117⟩ := mm_X7_is (d := d) M0 hy
                    subst Vs117
                    replace Fs117 := F0.tr Fs117
                    refine gb2 ey ?_
                    by_cases c119 : r118 = (0 : Int32)
                    · replace hx := ift c119 hx
                      refine git c119 ?_
                      obtain ⟨rfl, rfl⟩ := lf2 hx
                      exact ⟨_, rfl, Ms117, rfl, Fs117⟩
                    · replace hx := iff' c119 hx
                      refine gif c119 ?_
                      refine gck Ms117.g ?_
                      refine gnn (Ms117.p 6 (by decide)) ?_
                      refine gck (Ms117.c 6 (by decide)) ?_
                      obtain ⟨g124, hx⟩ := ck hx
                      refine gck (Ms117.b 6 (by decide) g124) ?_
                      obtain ⟨rfl, rfl⟩ := lf2 hx
                      exact ⟨_, rfl, Ms117, rfl, Fs117⟩
