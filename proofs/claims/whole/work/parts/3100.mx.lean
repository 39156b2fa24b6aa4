def mx_X7_lit (μ : Mu) (p1 : Int64) : Option (Int32 × Mu) := (if (mS μ 804) = (4000 : Int32) then some ((-1 : Int32), μ) else (if ¬ ((mS μ 804) < 0 ∨ 4000 ≤ Int32.toNatClampNeg (mS μ 804)) then (bm (uI μ 1 (Int32.toNatClampNeg (mS μ 804)) (0 : Int32)) fun m7 => (if ¬ ((mS m7 804) < 0 ∨ 4000 ≤ Int32.toNatClampNeg (mS m7 804)) then (bm (uJ m7 3 (Int32.toNatClampNeg (mS m7 804)) p1) fun m14 => (bm (uS m14 804 ((mS m14 804) + (1 : Int32))) fun m17 => some ((mS m17 804) - (1 : Int32), m17))) else none)) else none))
set_option maxHeartbeats 1000000 in
theorem mm_X7_lit {d : Dp} {σ : Sg} {h0 : Nat} {ma : Nat → Nat} {p1 : Int64} {r : Int32} {μ' : Mu} (M0 : MS σ h0 ma) (hx : mx_X7_lit (Vw σ h0 ma) p1 = some (r, μ')) : ∃ σ', ex_X7_lit d σ h0 p1 = some (r, σ') ∧ MS σ' h0 ma ∧ Vw σ' h0 ma = μ' ∧ Fq σ σ' := by
  have F0 := Fq.rf σ
  unfold mx_X7_lit at hx
  unfold ex_X7_lit
  refine gck M0.g ?_
  by_cases c2 : (gi σ 804 h0) = (4000 : Int32)
  · replace hx := ift c2 hx
    refine git c2 ?_
    obtain ⟨rfl, rfl⟩ := lf2 hx
    exact ⟨_, rfl, M0, rfl, F0⟩
  · replace hx := iff' c2 hx
    refine gif c2 ?_
    refine gnn (M0.p 1 (by decide)) ?_
    refine gck (M0.c 1 (by decide)) ?_
    obtain ⟨g6, hx⟩ := ck hx
    refine gck (M0.b 1 (by decide) g6) ?_
    obtain ⟨m7, em, hx⟩ := nbm hx
    refine gbn (fun s7 es => ?_)
    obtain ⟨Ms7, Vs7, Fs7⟩ := M0.upI (k := 1) (by decide) es em
    subst Vs7
    replace Fs7 := F0.tr Fs7
    refine gck Ms7.g ?_
    refine gnn (Ms7.p 3 (by decide)) ?_
    refine gck (Ms7.c 3 (by decide)) ?_
    obtain ⟨g13, hx⟩ := ck hx
    refine gck (Ms7.b 3 (by decide) g13) ?_
    obtain ⟨m14, em, hx⟩ := nbm hx
    refine gbn (fun s14 es => ?_)
    obtain ⟨Ms14, Vs14, Fs14⟩ := Ms7.upJ (k := 3) (by decide) es em
    subst Vs14
    replace Fs14 := Fs7.tr Fs14
    refine gck Ms14.g ?_
    obtain ⟨m17, em, hx⟩ := nbm hx
    refine gbn (fun s17 es => ?_)
    obtain ⟨Ms17, Vs17, Fs17⟩ := Ms14.upS (by decide) es em
    subst Vs17
    replace Fs17 := Fs14.tr Fs17
    refine gck Ms17.g ?_
    obtain ⟨rfl, rfl⟩ := lf2 hx
    exact ⟨_, rfl, Ms17, rfl, Fs17⟩
def mx_X7_isNode (μ : Mu) (p1 : Int32) (p2 : Int32) : Option (Int32 × Mu) := (if ¬ (p1 < 0 ∨ 4000 ≤ Int32.toNatClampNeg p1) then (if ¬ ((mI μ 1 (Int32.toNatClampNeg p1)) < 0 ∨ 21 ≤ Int32.toNatClampNeg (mI μ 1 (Int32.toNatClampNeg p1))) then (if (((mI μ 0 (Int32.toNatClampNeg (mI μ 1 (Int32.toNatClampNeg p1)))) >>> (p2 &&& 31)) &&& (1 : Int32)) = (1 : Int32) then some ((1 : Int32), μ) else some ((0 : Int32), μ)) else none) else none)
set_option maxHeartbeats 1000000 in
theorem mm_X7_isNode {d : Dp} {σ : Sg} {h0 : Nat} {ma : Nat → Nat} {p1 : Int32} {p2 : Int32} {r : Int32} {μ' : Mu} (M0 : MS σ h0 ma) (hx : mx_X7_isNode (Vw σ h0 ma) p1 p2 = some (r, μ')) : ∃ σ', ex_X7_isNode d σ h0 p1 p2 = some (r, σ') ∧ MS σ' h0 ma ∧ Vw σ' h0 ma = μ' ∧ Fq σ σ' := by
  have F0 := Fq.rf σ
  unfold mx_X7_isNode at hx
  unfold ex_X7_isNode
  refine gck M0.g ?_
  refine gnn (M0.p 1 (by decide)) ?_
  refine gck (M0.c 1 (by decide)) ?_
  obtain ⟨g5, hx⟩ := ck hx
  refine gck (M0.b 1 (by decide) g5) ?_
  refine gnn (M0.p 0 (by decide)) ?_
  refine gck (M0.c 0 (by decide)) ?_
  obtain ⟨g9, hx⟩ := ck hx
  refine gck (M0.b 0 (by decide) g9) ?_
  by_cases c10 : (((ai σ (ma 0) (Int32.toNatClampNeg (ai σ (ma 1) (Int32.toNatClampNeg p1)))) >>> (p2 &&& 31)) &&& (1 : Int32)) = (1 : Int32)
  · replace hx := ift c10 hx
    refine git c10 ?_
    obtain ⟨rfl, rfl⟩ := lf2 hx
    exact ⟨_, rfl, M0, rfl, F0⟩
  · replace hx := iff' c10 hx
    refine gif c10 ?_
    obtain ⟨rfl, rfl⟩ := lf2 hx
    exact ⟨_, rfl, M0, rfl, F0⟩
def mx_X7_join (μ : Mu) (p1 : Int32) (p2 : Int32) (p3 : Int32) : Option (Unit × Mu) := (b2 (mx_X7_isNode μ p1 p2) fun r4 m3 => (if r4 = (0 : Int32) then (if ¬ ((((3 : Int32) * p1) + p2) < 0 ∨ 12000 ≤ Int32.toNatClampNeg (((3 : Int32) * p1) + p2)) then (bm (uI m3 2 (Int32.toNatClampNeg (((3 : Int32) * p1) + p2)) p3) fun m10 => some ((), m10)) else none) else (if p3 < (0 : Int32) then (if ¬ ((((3 : Int32) * p1) + p2) < 0 ∨ 12000 ≤ Int32.toNatClampNeg (((3 : Int32) * p1) + p2)) then (bm (uI m3 2 (Int32.toNatClampNeg (((3 : Int32) * p1) + p2)) (-1 : Int32)) fun m17 => some ((), m17)) else none) else (if p3 < (mS m3 804) then (if ¬ ((((3 : Int32) * p1) + p2) < 0 ∨ 12000 ≤ Int32.toNatClampNeg (((3 : Int32) * p1) + p2)) then (bm (uI m3 2 (Int32.toNatClampNeg (((3 : Int32) * p1) + p2)) p3) fun m25 => some ((), m25)) else none) else (if ¬ ((((3 : Int32) * p1) + p2) < 0 ∨ 12000 ≤ Int32.toNatClampNeg (((3 : Int32) * p1) + p2)) then (bm (uI m3 2 (Int32.toNatClampNeg (((3 : Int32) * p1) + p2)) (-1 : Int32)) fun m31 => some ((), m31)) else none)))))
set_option maxHeartbeats 1000000 in
theorem mm_X7_join {d : Dp} {σ : Sg} {h0 : Nat} {ma : Nat → Nat} {p1 : Int32} {p2 : Int32} {p3 : Int32} {r : Unit} {μ' : Mu} (M0 : MS σ h0 ma) (hx : mx_X7_join (Vw σ h0 ma) p1 p2 p3 = some (r, μ')) : ∃ σ', ex_X7_join d σ h0 p1 p2 p3 = some (r, σ') ∧ MS σ' h0 ma ∧ Vw σ' h0 ma = μ' ∧ Fq σ σ' := by
  have F0 := Fq.rf σ
  unfold mx_X7_join at hx
  unfold ex_X7_join
  refine gck M0.g ?_
  obtain ⟨r4, m3, hy, hx⟩ := nb2 hx
  obtain ⟨s3, ey, Ms3, Vs3, Fs3⟩ := mm_X7_isNode (d := d) M0 hy
  subst Vs3
  replace Fs3 := F0.tr Fs3
  refine gb2 ey ?_
  by_cases c5 : r4 = (0 : Int32)
  · replace hx := ift c5 hx
    refine git c5 ?_
    refine gnn (M0.p 2 (by decide)) ?_
    refine gck (Ms3.c 2 (by decide)) ?_
    obtain ⟨g9, hx⟩ := ck hx
    refine gck (Ms3.b 2 (by decide) g9) ?_
    obtain ⟨m10, em, hx⟩ := nbm hx
    refine gbn (fun s10 es => ?_)
    obtain ⟨Ms10, Vs10, Fs10⟩ := Ms3.upI (k := 2) (by decide) es em
    subst Vs10
    replace Fs10 := Fs3.tr Fs10
    obtain ⟨rfl, rfl⟩ := lf2 hx
    exact ⟨_, rfl, Ms10, rfl, Fs10⟩
  · replace hx := iff' c5 hx
    refine gif c5 ?_
    by_cases c12 : p3 < (0 : Int32)
    · replace hx := ift c12 hx
      refine git c12 ?_
      refine gnn (M0.p 2 (by decide)) ?_
      refine gck (Ms3.c 2 (by decide)) ?_
      obtain ⟨g16, hx⟩ := ck hx
      refine gck (Ms3.b 2 (by decide) g16) ?_
      obtain ⟨m17, em, hx⟩ := nbm hx
      refine gbn (fun s17 es => ?_)
      obtain ⟨Ms17, Vs17, Fs17⟩ := Ms3.upI (k := 2) (by decide) es em
      subst Vs17
      replace Fs17 := Fs3.tr Fs17
      obtain ⟨rfl, rfl⟩ := lf2 hx
      exact ⟨_, rfl, Ms17, rfl, Fs17⟩
    · replace hx := iff' c12 hx
      refine gif c12 ?_
      refine gck Ms3.g ?_
      by_cases c20 : p3 < (gi s3 804 h0)
      · replace hx := ift c20 hx
        refine git c20 ?_
        refine gnn (M0.p 2 (by decide)) ?_
        refine gck (Ms3.c 2 (by decide)) ?_
        obtain ⟨g24, hx⟩ := ck hx
        refine gck (Ms3.b 2 (by decide) g24) ?_
        obtain ⟨m25, em, hx⟩ := nbm hx
        refine gbn (fun s25 es => ?_)
        obtain ⟨Ms25, Vs25, Fs25⟩ := Ms3.upI (k := 2) (by decide) es em
        subst Vs25
        replace Fs25 := Fs3.tr Fs25
        obtain ⟨rfl, rfl⟩ := lf2 hx
        exact ⟨_, rfl, Ms25, rfl, Fs25⟩
      · replace hx := iff' c20 hx
        refine gif c20 ?_
        refine gnn (M0.p 2 (by decide)) ?_
        refine gck (Ms3.c 2 (by decide)) ?_
        obtain ⟨g30, hx⟩ := ck hx
        refine gck (Ms3.b 2 (by decide) g30) ?_
        obtain ⟨m31, em, hx⟩ := nbm hx
        refine gbn (fun s31 es => ?_)
        obtain ⟨Ms31, Vs31, Fs31⟩ := Ms3.upI (k := 2) (by decide) es em
        subst Vs31
        replace Fs31 := Fs3.tr Fs31
        obtain ⟨rfl, rfl⟩ := lf2 hx
        exact ⟨_, rfl, Ms31, rfl, Fs31⟩
def mx_X7_node (μ : Mu) (p1 : Int32) (p2 : Int32) (p3 : Int32) (p4 : Int32) : Option (Int32 × Mu) := (if p1 < (1 : Int32) then some ((-1 : Int32), μ) else (if (20 : Int32) < p1 then some ((-1 : Int32), μ) else (if (mS μ 804) = (4000 : Int32) then some ((-1 : Int32), μ) else (if ¬ ((mS μ 804) < 0 ∨ 4000 ≤ Int32.toNatClampNeg (mS μ 804)) then (bm (uI μ 1 (Int32.toNatClampNeg (mS μ 804)) p1) fun m9 => (b2 (mx_X7_join m9 (mS m9 804) (0 : Int32) p2) fun r14 m13 => (b2 (mx_X7_join m13 (mS m13 804) (1 : Int32) p3) fun r18 m17 => (b2 (mx_X7_join m17 (mS m17 804) (2 : Int32) p4) fun r22 m21 => (bm (uS m21 804 ((mS m21 804) + (1 : Int32))) fun m24 => some ((mS m24 804) - (1 : Int32), m24)))))) else none))))
set_option maxHeartbeats 1000000 in
theorem mm_X7_node {d : Dp} {σ : Sg} {h0 : Nat} {ma : Nat → Nat} {p1 : Int32} {p2 : Int32} {p3 : Int32} {p4 : Int32} {r : Int32} {μ' : Mu} (M0 : MS σ h0 ma) (hx : mx_X7_node (Vw σ h0 ma) p1 p2 p3 p4 = some (r, μ')) : ∃ σ', ex_X7_node d σ h0 p1 p2 p3 p4 = some (r, σ') ∧ MS σ' h0 ma ∧ Vw σ' h0 ma = μ' ∧ Fq σ σ' := by
  have F0 := Fq.rf σ
  unfold mx_X7_node at hx
  unfold ex_X7_node
  by_cases c1 : p1 < (1 : Int32)
  · replace hx := ift c1 hx
    refine git c1 ?_
    obtain ⟨rfl, rfl⟩ := lf2 hx
    exact ⟨_, rfl, M0, rfl, F0⟩
  · replace hx := iff' c1 hx
    refine gif c1 ?_
    by_cases c2 : (20 : Int32) < p1
    · replace hx := ift c2 hx
      refine git c2 ?_
      obtain ⟨rfl, rfl⟩ := lf2 hx
      exact ⟨_, rfl, M0, rfl, F0⟩
    · replace hx := iff' c2 hx
      refine gif c2 ?_
      refine gck M0.g ?_
      by_cases c4 : (gi σ 804 h0) = (4000 : Int32)
      · replace hx := ift c4 hx
        refine git c4 ?_
        obtain ⟨rfl, rfl⟩ := lf2 hx
        exact ⟨_, rfl, M0, rfl, F0⟩
      · replace hx := iff' c4 hx
        refine gif c4 ?_
        refine gnn (M0.p 1 (by decide)) ?_
        refine gck (M0.c 1 (by decide)) ?_
        obtain ⟨g8, hx⟩ := ck hx
        refine gck (M0.b 1 (by decide) g8) ?_
        obtain ⟨m9, em, hx⟩ := nbm hx
        refine gbn (fun s9 es => ?_)
        obtain ⟨Ms9, Vs9, Fs9⟩ := M0.upI (k := 1) (by decide) es em
        subst Vs9
        replace Fs9 := F0.tr Fs9
        refine gck Ms9.g ?_
        obtain ⟨r14, m13, hy, hx⟩ := nb2 hx
        obtain ⟨s13, ey, Ms13, Vs13, Fs13⟩ := mm_X7_join (d := d) Ms9 hy
        subst Vs13
        replace Fs13 := Fs9.tr Fs13
        refine gb2 ey ?_
        refine gck Ms13.g ?_
        obtain ⟨r18, m17, hy, hx⟩ := nb2 hx
        obtain ⟨s17, ey, Ms17, Vs17, Fs17⟩ := mm_X7_join (d := d) Ms13 hy
        subst Vs17
        replace Fs17 := Fs13.tr Fs17
        refine gb2 ey ?_
        refine gck Ms17.g ?_
        obtain ⟨r22, m21, hy, hx⟩ := nb2 hx
        obtain ⟨s21, ey, Ms21, Vs21, Fs21⟩ := mm_X7_join (d := d) Ms17 hy
        subst Vs21
        replace Fs21 := Fs17.tr Fs21
        refine gb2 ey ?_
        refine gck Ms21.g ?_
        obtain ⟨m24, em, hx⟩ := nbm hx
        refine gbn (fun s24 es => ?_)
        obtain ⟨Ms24, Vs24, Fs24⟩ := Ms21.upS (by decide) es em
        subst Vs24
        replace Fs24 := Fs21.tr Fs24
        refine gck Ms24.g ?_
        obtain ⟨rfl, rfl⟩ := lf2 hx
        exact ⟨_, rfl, Ms24, rfl, Fs24⟩
def mx_X7_part (μ : Mu) (p1 : Int32) (p2 : Int32) (p3 : Int32) : Option (Int32 × Mu) := (if p1 < (0 : Int32) then some ((-1 : Int32), μ) else (if (mS μ 804) ≤ p1 then some ((-1 : Int32), μ) else (if p2 < (0 : Int32) then some ((-1 : Int32), μ) else (if p2 ≤ (2 : Int32) then (b2 (mx_X7_join μ p1 p2 p3) fun r8 m7 => some ((0 : Int32), m7)) else some ((-1 : Int32), μ)))))
set_option maxHeartbeats 1000000 in
theorem mm_X7_part {d : Dp} {σ : Sg} {h0 : Nat} {ma : Nat → Nat} {p1 : Int32} {p2 : Int32} {p3 : Int32} {r : Int32} {μ' : Mu} (M0 : MS σ h0 ma) (hx : mx_X7_part (Vw σ h0 ma) p1 p2 p3 = some (r, μ')) : ∃ σ', ex_X7_part d σ h0 p1 p2 p3 = some (r, σ') ∧ MS σ' h0 ma ∧ Vw σ' h0 ma = μ' ∧ Fq σ σ' := by
  have F0 := Fq.rf σ
  unfold mx_X7_part at hx
  unfold ex_X7_part
  by_cases c1 : p1 < (0 : Int32)
  · replace hx := ift c1 hx
    refine git c1 ?_
    obtain ⟨rfl, rfl⟩ := lf2 hx
    exact ⟨_, rfl, M0, rfl, F0⟩
  · replace hx := iff' c1 hx
    refine gif c1 ?_
    refine gck M0.g ?_
    by_cases c3 : (gi σ 804 h0) ≤ p1
    · replace hx := ift c3 hx
      refine git c3 ?_
      obtain ⟨rfl, rfl⟩ := lf2 hx
      exact ⟨_, rfl, M0, rfl, F0⟩
    · replace hx := iff' c3 hx
      refine gif c3 ?_
      by_cases c4 : p2 < (0 : Int32)
      · replace hx := ift c4 hx
        refine git c4 ?_
        obtain ⟨rfl, rfl⟩ := lf2 hx
        exact ⟨_, rfl, M0, rfl, F0⟩
      · replace hx := iff' c4 hx
        refine gif c4 ?_
        by_cases c5 : p2 ≤ (2 : Int32)
        · replace hx := ift c5 hx
          refine git c5 ?_
          obtain ⟨r8, m7, hy, hx⟩ := nb2 hx
          obtain ⟨s7, ey, Ms7, Vs7, Fs7⟩ := mm_X7_join (d := d) M0 hy
          subst Vs7
          replace Fs7 := F0.tr Fs7
          refine gb2 ey ?_
          obtain ⟨rfl, rfl⟩ := lf2 hx
          exact ⟨_, rfl, Ms7, rfl, Fs7⟩
        · replace hx := iff' c5 hx
          refine gif c5 ?_
          obtain ⟨rfl, rfl⟩ := lf2 hx
          exact ⟨_, rfl, M0, rfl, F0⟩
def mx_X7_number (μ : Mu) (p1 : Int32) (p2 : Int32) : Option (Int32 × Mu) := (if ¬ ((((3 : Int32) * p1) + p2) < 0 ∨ 12000 ≤ Int32.toNatClampNeg (((3 : Int32) * p1) + p2)) then some (mI μ 2 (Int32.toNatClampNeg (((3 : Int32) * p1) + p2)), μ) else none)
set_option maxHeartbeats 1000000 in
theorem mm_X7_number {d : Dp} {σ : Sg} {h0 : Nat} {ma : Nat → Nat} {p1 : Int32} {p2 : Int32} {r : Int32} {μ' : Mu} (M0 : MS σ h0 ma) (hx : mx_X7_number (Vw σ h0 ma) p1 p2 = some (r, μ')) : ∃ σ', ex_X7_number d σ h0 p1 p2 = some (r, σ') ∧ MS σ' h0 ma ∧ Vw σ' h0 ma = μ' ∧ Fq σ σ' := by
  have F0 := Fq.rf σ
  unfold mx_X7_number at hx
  unfold ex_X7_number
  refine gck M0.g ?_
  refine gnn (M0.p 2 (by decide)) ?_
  refine gck (M0.c 2 (by decide)) ?_
  obtain ⟨g5, hx⟩ := ck hx
  refine gck (M0.b 2 (by decide) g5) ?_
  obtain ⟨rfl, rfl⟩ := lf2 hx
  exact ⟨_, rfl, M0, rfl, F0⟩
def mx_X7_make (μ : Mu) (p1 : Int32) (p2 : Int64) (p3 : Int32) (p4 : Int32) : Option (Int32 × Mu) := (bm (uS μ 809 ((mS μ 809) + (1 : Int32))) fun m2 => (if ¬ ((mS μ 809) < 0 ∨ 50000 ≤ Int32.toNatClampNeg (mS μ 809)) then (bm (uI m2 4 (Int32.toNatClampNeg (mS μ 809)) p1) fun m9 => (if ¬ ((mS μ 809) < 0 ∨ 50000 ≤ Int32.toNatClampNeg (mS μ 809)) then (bm (uJ m9 7 (Int32.toNatClampNeg (mS μ 809)) p2) fun m16 => (if ¬ ((mS μ 809) < 0 ∨ 50000 ≤ Int32.toNatClampNeg (mS μ 809)) then (bm (uI m16 5 (Int32.toNatClampNeg (mS μ 809)) p3) fun m23 => (if ¬ ((mS μ 809) < 0 ∨ 50000 ≤ Int32.toNatClampNeg (mS μ 809)) then (bm (uI m23 6 (Int32.toNatClampNeg (mS μ 809)) p4) fun m30 => some (mS μ 809, m30)) else none)) else none)) else none)) else none))
set_option maxHeartbeats 1000000 in
theorem mm_X7_make {d : Dp} {σ : Sg} {h0 : Nat} {ma : Nat → Nat} {p1 : Int32} {p2 : Int64} {p3 : Int32} {p4 : Int32} {r : Int32} {μ' : Mu} (M0 : MS σ h0 ma) (hx : mx_X7_make (Vw σ h0 ma) p1 p2 p3 p4 = some (r, μ')) : ∃ σ', ex_X7_make d σ h0 p1 p2 p3 p4 = some (r, σ') ∧ MS σ' h0 ma ∧ Vw σ' h0 ma = μ' ∧ Fq σ σ' := by
  have F0 := Fq.rf σ
  unfold mx_X7_make at hx
  unfold ex_X7_make
  refine gck M0.g ?_
  obtain ⟨m2, em, hx⟩ := nbm hx
  refine gbn (fun s2 es => ?_)
  obtain ⟨Ms2, Vs2, Fs2⟩ := M0.upS (by decide) es em
  subst Vs2
  replace Fs2 := F0.tr Fs2
  refine gck Ms2.g ?_
  refine gnn (Ms2.p 4 (by decide)) ?_
  refine gck (Ms2.c 4 (by decide)) ?_
  obtain ⟨g8, hx⟩ := ck hx
  refine gck (Ms2.b 4 (by decide) g8) ?_
  obtain ⟨m9, em, hx⟩ := nbm hx
  refine gbn (fun s9 es => ?_)
  obtain ⟨Ms9, Vs9, Fs9⟩ := Ms2.upI (k := 4) (by decide) es em
  subst Vs9
  replace Fs9 := Fs2.tr Fs9
  refine gck Ms9.g ?_
  refine gnn (Ms9.p 7 (by decide)) ?_
  refine gck (Ms9.c 7 (by decide)) ?_
  obtain ⟨g15, hx⟩ := ck hx
  refine gck (Ms9.b 7 (by decide) g15) ?_
  obtain ⟨m16, em, hx⟩ := nbm hx
  refine gbn (fun s16 es => ?_)
  obtain ⟨Ms16, Vs16, Fs16⟩ := Ms9.upJ (k := 7) (by decide) es em
  subst Vs16
  replace Fs16 := Fs9.tr Fs16
  refine gck Ms16.g ?_
  refine gnn (Ms16.p 5 (by decide)) ?_
  refine gck (Ms16.c 5 (by decide)) ?_
  obtain ⟨g22, hx⟩ := ck hx
  refine gck (Ms16.b 5 (by decide) g22) ?_
  obtain ⟨m23, em, hx⟩ := nbm hx
  refine gbn (fun s23 es => ?_)
  obtain ⟨Ms23, Vs23, Fs23⟩ := Ms16.upI (k := 5) (by decide) es em
  subst Vs23
  replace Fs23 := Fs16.tr Fs23
  refine gck Ms23.g ?_
  refine gnn (Ms23.p 6 (by decide)) ?_
  refine gck (Ms23.c 6 (by decide)) ?_
  obtain ⟨g29, hx⟩ := ck hx
  refine gck (Ms23.b 6 (by decide) g29) ?_
  obtain ⟨m30, em, hx⟩ := nbm hx
  refine gbn (fun s30 es => ?_)
  obtain ⟨Ms30, Vs30, Fs30⟩ := Ms23.upI (k := 6) (by decide) es em
  subst Vs30
  replace Fs30 := Fs23.tr Fs30
  obtain ⟨rfl, rfl⟩ := lf2 hx
  exact ⟨_, rfl, Ms30, rfl, Fs30⟩
def mx_X7_num (μ : Mu) (p1 : Int64) : Option (Int32 × Mu) := (b2 (mx_X7_make μ (1 : Int32) p1 (-1 : Int32) (-1 : Int32)) fun r4 m3 => some (r4, m3))
set_option maxHeartbeats 1000000 in
theorem mm_X7_num {d : Dp} {σ : Sg} {h0 : Nat} {ma : Nat → Nat} {p1 : Int64} {r : Int32} {μ' : Mu} (M0 : MS σ h0 ma) (hx : mx_X7_num (Vw σ h0 ma) p1 = some (r, μ')) : ∃ σ', ex_X7_num d σ h0 p1 = some (r, σ') ∧ MS σ' h0 ma ∧ Vw σ' h0 ma = μ' ∧ Fq σ σ' := by
  have F0 := Fq.rf σ
  unfold mx_X7_num at hx
  unfold ex_X7_num
  refine gck M0.g ?_
  obtain ⟨r4, m3, hy, hx⟩ := nb2 hx
  obtain ⟨s3, ey, Ms3, Vs3, Fs3⟩ := mm_X7_make (d := d) M0 hy
  subst Vs3
  replace Fs3 := F0.tr Fs3
  refine gb2 ey ?_
  obtain ⟨rfl, rfl⟩ := lf2 hx
  exact ⟨_, rfl, Ms3, rfl, Fs3⟩
def mx_X7_fail (μ : Mu) (p1 : Int32) (p2 : Int32) : Option (Int32 × Mu) := (bm (uS μ 820 p1) fun m2 => (bm (uS m2 821 p2) fun m5 => some ((-1 : Int32), m5)))
set_option maxHeartbeats 1000000 in
theorem mm_X7_fail {d : Dp} {σ : Sg} {h0 : Nat} {ma : Nat → Nat} {p1 : Int32} {p2 : Int32} {r : Int32} {μ' : Mu} (M0 : MS σ h0 ma) (hx : mx_X7_fail (Vw σ h0 ma) p1 p2 = some (r, μ')) : ∃ σ', ex_X7_fail d σ h0 p1 p2 = some (r, σ') ∧ MS σ' h0 ma ∧ Vw σ' h0 ma = μ' ∧ Fq σ σ' := by
  have F0 := Fq.rf σ
  unfold mx_X7_fail at hx
  unfold ex_X7_fail
  refine gck M0.g ?_
  obtain ⟨m2, em, hx⟩ := nbm hx
  refine gbn (fun s2 es => ?_)
  obtain ⟨Ms2, Vs2, Fs2⟩ := M0.upS (by decide) es em
  subst Vs2
  replace Fs2 := F0.tr Fs2
  refine gck Ms2.g ?_
  obtain ⟨m5, em, hx⟩ := nbm hx
  refine gbn (fun s5 es => ?_)
  obtain ⟨Ms5, Vs5, Fs5⟩ := Ms2.upS (by decide) es em
  subst Vs5
  replace Fs5 := Fs2.tr Fs5
  obtain ⟨rfl, rfl⟩ := lf2 hx
  exact ⟨_, rfl, Ms5, rfl, Fs5⟩
def mx_X7_is (μ : Mu) (p1 : Int32) (p2 : Int32) (p3 : Int32) : Option (Int32 × Mu) := (if p2 = (-1 : Int32) then (if p2 = (-1 : Int32) then (b2 (mx_X7_fail μ (1 : Int32) p1) fun r10 m9 => some ((0 : Int32), m9)) else (b2 (mx_X7_fail μ (3 : Int32) p1) fun r6 m5 => some ((0 : Int32), m5))) else (if ¬ (p2 < 0 ∨ 50000 ≤ Int32.toNatClampNeg p2) then (if (mI μ 4 (Int32.toNatClampNeg p2)) = p3 then some ((1 : Int32), μ) else (if p3 = (2 : Int32) then (if ¬ (p2 < 0 ∨ 50000 ≤ Int32.toNatClampNeg p2) then (if (mI μ 4 (Int32.toNatClampNeg p2)) = (3 : Int32) then some ((1 : Int32), μ) else (if p2 = (-1 : Int32) then (b2 (mx_X7_fail μ (1 : Int32) p1) fun r33 m32 => some ((0 : Int32), m32)) else (b2 (mx_X7_fail μ (3 : Int32) p1) fun r30 m29 => some ((0 : Int32), m29)))) else none) else (if p2 = (-1 : Int32) then (b2 (mx_X7_fail μ (1 : Int32) p1) fun r24 m23 => some ((0 : Int32), m23)) else (b2 (mx_X7_fail μ (3 : Int32) p1) fun r21 m20 => some ((0 : Int32), m20))))) else none))
set_option maxHeartbeats 1000000 in
theorem mm_X7_is {d : Dp} {σ : Sg} {h0 : Nat} {ma : Nat → Nat} {p1 : Int32} {p2 : Int32} {p3 : Int32} {r : Int32} {μ' : Mu} (M0 : MS σ h0 ma) (hx : mx_X7_is (Vw σ h0 ma) p1 p2 p3 = some (r, μ')) : ∃ σ', ex_X7_is d σ h0 p1 p2 p3 = some (r, σ') ∧ MS σ' h0 ma ∧ Vw σ' h0 ma = μ' ∧ Fq σ σ' := by
  have F0 := Fq.rf σ
  unfold mx_X7_is at hx
  unfold ex_X7_is
  by_cases c1 : p2 = (-1 : Int32)
  · replace hx := ift c1 hx
    refine git c1 ?_
    by_cases c2 : p2 = (-1 : Int32)
    · replace hx := ift c2 hx
      refine git c2 ?_
      refine gck M0.g ?_
      obtain ⟨r10, m9, hy, hx⟩ := nb2 hx
      obtain ⟨s9, ey, Ms9, Vs9, Fs9⟩ := mm_X7_fail (d := d) M0 hy
      subst Vs9
      replace Fs9 := F0.tr Fs9
      refine gb2 ey ?_
      obtain ⟨rfl, rfl⟩ := lf2 hx
      exact ⟨_, rfl, Ms9, rfl, Fs9⟩
    · replace hx := iff' c2 hx
      refine gif c2 ?_
      refine gck M0.g ?_
      obtain ⟨r6, m5, hy, hx⟩ := nb2 hx
      obtain ⟨s5, ey, Ms5, Vs5, Fs5⟩ := mm_X7_fail (d := d) M0 hy
      subst Vs5
      replace Fs5 := F0.tr Fs5
      refine gb2 ey ?_
      obtain ⟨rfl, rfl⟩ := lf2 hx
      exact ⟨_, rfl, Ms5, rfl, Fs5⟩
  · replace hx := iff' c1 hx
    refine gif c1 ?_
    refine gck M0.g ?_
    refine gnn (M0.p 4 (by decide)) ?_
    refine gck (M0.c 4 (by decide)) ?_
    obtain ⟨g15, hx⟩ := ck hx
    refine gck (M0.b 4 (by decide) g15) ?_
    by_cases c16 : (ai σ (ma 4) (Int32.toNatClampNeg p2)) = p3
    · replace hx := ift c16 hx
      refine git c16 ?_
      obtain ⟨rfl, rfl⟩ := lf2 hx
      exact ⟨_, rfl, M0, rfl, F0⟩
    · replace hx := iff' c16 hx
      refine gif c16 ?_
      by_cases c17 : p3 = (2 : Int32)
      · replace hx := ift c17 hx
        refine git c17 ?_
        obtain ⟨g25, hx⟩ := ck hx
        refine gck (M0.b 4 (by decide) g25) ?_
        by_cases c26 : (ai σ (ma 4) (Int32.toNatClampNeg p2)) = (3 : Int32)
        · replace hx := ift c26 hx
          refine git c26 ?_
          obtain ⟨rfl, rfl⟩ := lf2 hx
          exact ⟨_, rfl, M0, rfl, F0⟩
        · replace hx := iff' c26 hx
          refine gif c26 ?_
          by_cases c27 : p2 = (-1 : Int32)
          · replace hx := ift c27 hx
            refine git c27 ?_
            obtain ⟨r33, m32, hy, hx⟩ := nb2 hx
            obtain ⟨s32, ey, Ms32, Vs32, Fs32⟩ := mm_X7_fail (d := d) M0 hy
            subst Vs32
            replace Fs32 := F0.tr Fs32
            refine gb2 ey ?_
            obtain ⟨rfl, rfl⟩ := lf2 hx
            exact ⟨_, rfl, Ms32, rfl, Fs32⟩
          · replace hx := iff' c27 hx
            refine gif c27 ?_
            obtain ⟨r30, m29, hy, hx⟩ := nb2 hx
            obtain ⟨s29, ey, Ms29, Vs29, Fs29⟩ := mm_X7_fail (d := d) M0 hy
            subst Vs29
            replace Fs29 := F0.tr Fs29
            refine gb2 ey ?_
            obtain ⟨rfl, rfl⟩ := lf2 hx
            exact ⟨_, rfl, Ms29, rfl, Fs29⟩
      · replace hx := iff' c17 hx
        refine gif c17 ?_
        by_cases c18 : p2 = (-1 : Int32)
        · replace hx := ift c18 hx
          refine git c18 ?_
          obtain ⟨r24, m23, hy, hx⟩ := nb2 hx
          obtain ⟨s23, ey, Ms23, Vs23, Fs23⟩ := mm_X7_fail (d := d) M0 hy
          subst Vs23
          replace Fs23 := F0.tr Fs23
          refine gb2 ey ?_
          obtain ⟨rfl, rfl⟩ := lf2 hx
          exact ⟨_, rfl, Ms23, rfl, Fs23⟩
        · replace hx := iff' c18 hx
          refine gif c18 ?_
          obtain ⟨r21, m20, hy, hx⟩ := nb2 hx
          obtain ⟨s20, ey, Ms20, Vs20, Fs20⟩ := mm_X7_fail (d := d) M0 hy
          subst Vs20
          replace Fs20 := F0.tr Fs20
          refine gb2 ey ?_
          obtain ⟨rfl, rfl⟩ := lf2 hx
          exact ⟨_, rfl, Ms20, rfl, Fs20⟩
