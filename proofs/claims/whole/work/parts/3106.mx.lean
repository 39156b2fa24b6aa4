def lq_X7_run : Nat → Mu → Int32 → Int32 → Option (Int32 × Mu)
  | 0, _, _, _ => none
  | f + 1, μ, v1, v2 => (if (mS μ 818) ≤ (0 : Int32) then (bm (uS μ 824 ((mS μ 824) + (mS μ 823))) fun m98 => (if (0 : Int32) ≤ (mS m98 820) then (if (mS m98 820) ≤ (0 : Int32) then (bm (uS m98 825 (mS m98 819)) fun m103 => some ((0 : Int32), m103)) else (bm (uS m98 826 (mS m98 820)) fun m105 => (bm (uS m105 827 (mS m105 821)) fun m108 => some ((1 : Int32) + (mS m108 820), m108)))) else some ((-1 : Int32), m98))) else (if (mS μ 820) < (0 : Int32) then (bm (uS μ 824 ((mS μ 824) + (mS μ 823))) fun m112 => (if (0 : Int32) ≤ (mS m112 820) then (if (mS m112 820) ≤ (0 : Int32) then (bm (uS m112 825 (mS m112 819)) fun m117 => some ((0 : Int32), m117)) else (bm (uS m112 826 (mS m112 820)) fun m119 => (bm (uS m119 827 (mS m119 821)) fun m122 => some ((1 : Int32) + (mS m122 820), m122)))) else some ((-1 : Int32), m112))) else (if (mS μ 820) ≤ (0 : Int32) then (if ¬ ((mS μ 818) < 0 ∨ 201 ≤ Int32.toNatClampNeg (mS μ 818)) then (b2 (mx_X7_forward μ (mI μ 10 (Int32.toNatClampNeg (mS μ 818)))) fun r132 m131 => lq_X7_run f m131 v1 v2) else none) else (if ¬ ((mS μ 818) < 0 ∨ 201 ≤ Int32.toNatClampNeg (mS μ 818)) then (b2 (mx_X7_outward μ (mI μ 10 (Int32.toNatClampNeg (mS μ 818)))) fun r139 m138 => lq_X7_run f m138 v1 v2) else none))))
set_option maxHeartbeats 1000000 in
theorem mml_X7_run {d : Dp} {h0 : Nat} {ma : Nat → Nat} {r : Int32} {μ' : Mu} : ∀ (f : Nat) (σ : Sg) (v1 : Int32) (v2 : Int32), MS σ h0 ma → lq_X7_run f (Vw σ h0 ma) v1 v2 = some (r, μ') → ∃ σ', lp_X7_run f d σ h0 v1 v2 = some (r, σ') ∧ MS σ' h0 ma ∧ Vw σ' h0 ma = μ' ∧ Fq σ σ' := by
  intro f
  induction f with
  | zero => intro σ v1 v2 M0 hx; cases hx
  | succ f ih =>
    intro σ v1 v2 M0 hx
    have F0 := Fq.rf σ
    unfold lq_X7_run at hx
    unfold lp_X7_run
    refine gck M0.g ?_
    by_cases c97 : (gi σ 818 h0) ≤ (0 : Int32)
    · replace hx := ift c97 hx
      refine git c97 ?_
      obtain ⟨m98, em, hx⟩ := nbm hx
      refine gbn (fun s98 es => ?_)
      obtain ⟨Ms98, Vs98, Fs98⟩ := M0.upS (by decide) es em
      subst Vs98
      replace Fs98 := F0.tr Fs98
      refine gck Ms98.g ?_
      by_cases c101 : (0 : Int32) ≤ (gi s98 820 h0)
      · replace hx := ift c101 hx
        refine git c101 ?_
        by_cases c102 : (gi s98 820 h0) ≤ (0 : Int32)
        · replace hx := ift c102 hx
          refine git c102 ?_
          obtain ⟨m103, em, hx⟩ := nbm hx
          refine gbn (fun s103 es => ?_)
          obtain ⟨Ms103, Vs103, Fs103⟩ := Ms98.upS (by decide) es em
          subst Vs103
          replace Fs103 := Fs98.tr Fs103
          obtain ⟨rfl, rfl⟩ := lf2 hx
          exact ⟨_, rfl, Ms103, rfl, Fs103⟩
        · replace hx := iff' c102 hx
          refine gif c102 ?_
          obtain ⟨m105, em, hx⟩ := nbm hx
          refine gbn (fun s105 es => ?_)
          obtain ⟨Ms105, Vs105, Fs105⟩ := Ms98.upS (by decide) es em
          subst Vs105
          replace Fs105 := Fs98.tr Fs105
          refine gck Ms105.g ?_
          obtain ⟨m108, em, hx⟩ := nbm hx
          refine gbn (fun s108 es => ?_)
          obtain ⟨Ms108, Vs108, Fs108⟩ := Ms105.upS (by decide) es em
          subst Vs108
          replace Fs108 := Fs105.tr Fs108
          refine gck Ms108.g ?_
          obtain ⟨rfl, rfl⟩ := lf2 hx
          exact ⟨_, rfl, Ms108, rfl, Fs108⟩
      · replace hx := iff' c101 hx
        refine gif c101 ?_
        obtain ⟨rfl, rfl⟩ := lf2 hx
        exact ⟨_, rfl, Ms98, rfl, Fs98⟩
    · replace hx := iff' c97 hx
      refine gif c97 ?_
      by_cases c111 : (gi σ 820 h0) < (0 : Int32)
      · replace hx := ift c111 hx
        refine git c111 ?_
        obtain ⟨m112, em, hx⟩ := nbm hx
        refine gbn (fun s112 es => ?_)
        obtain ⟨Ms112, Vs112, Fs112⟩ := M0.upS (by decide) es em
        subst Vs112
        replace Fs112 := F0.tr Fs112
        refine gck Ms112.g ?_
        by_cases c115 : (0 : Int32) ≤ (gi s112 820 h0)
        · replace hx := ift c115 hx
          refine git c115 ?_
          by_cases c116 : (gi s112 820 h0) ≤ (0 : Int32)
          · replace hx := ift c116 hx
            refine git c116 ?_
            obtain ⟨m117, em, hx⟩ := nbm hx
            refine gbn (fun s117 es => ?_)
            obtain ⟨Ms117, Vs117, Fs117⟩ := Ms112.upS (by decide) es em
            subst Vs117
            replace Fs117 := Fs112.tr Fs117
            obtain ⟨rfl, rfl⟩ := lf2 hx
            exact ⟨_, rfl, Ms117, rfl, Fs117⟩
          · replace hx := iff' c116 hx
            refine gif c116 ?_
            obtain ⟨m119, em, hx⟩ := nbm hx
            refine gbn (fun s119 es => ?_)
            obtain ⟨Ms119, Vs119, Fs119⟩ := Ms112.upS (by decide) es em
            subst Vs119
            replace Fs119 := Fs112.tr Fs119
            refine gck Ms119.g ?_
            obtain ⟨m122, em, hx⟩ := nbm hx
            refine gbn (fun s122 es => ?_)
            obtain ⟨Ms122, Vs122, Fs122⟩ := Ms119.upS (by decide) es em
            subst Vs122
            replace Fs122 := Fs119.tr Fs122
            refine gck Ms122.g ?_
            obtain ⟨rfl, rfl⟩ := lf2 hx
            exact ⟨_, rfl, Ms122, rfl, Fs122⟩
        · replace hx := iff' c115 hx
          refine gif c115 ?_
          obtain ⟨rfl, rfl⟩ := lf2 hx
          exact ⟨_, rfl, Ms112, rfl, Fs112⟩
      · replace hx := iff' c111 hx
        refine gif c111 ?_
        by_cases c125 : (gi σ 820 h0) ≤ (0 : Int32)
        · replace hx := ift c125 hx
          refine git c125 ?_
          refine gnn (M0.p 10 (by decide)) ?_
          refine gck (M0.c 10 (by decide)) ?_
          obtain ⟨g129, hx⟩ := ck hx
          refine gck (M0.b 10 (by decide) g129) ?_
          obtain ⟨r132, m131, hy, hx⟩ := nb2 hx
          obtain ⟨s131, ey, Ms131, Vs131, Fs131⟩ := mm_X7_forward (d := d) M0 hy
          subst Vs131
          replace Fs131 := F0.tr Fs131
          refine gb2 ey ?_
          obtain ⟨sz, ey, Mz, Vz, Fz⟩ := ih _ _ _ Ms131 hx
          exact ⟨sz, ey, Mz, Vz, Fs131.tr Fz⟩
        · replace hx := iff' c125 hx
          refine gif c125 ?_
          refine gnn (M0.p 10 (by decide)) ?_
          refine gck (M0.c 10 (by decide)) ?_
          obtain ⟨g136, hx⟩ := ck hx
          refine gck (M0.b 10 (by decide) g136) ?_
          obtain ⟨r139, m138, hy, hx⟩ := nb2 hx
          obtain ⟨s138, ey, Ms138, Vs138, Fs138⟩ := mm_X7_outward (d := d) M0 hy
          subst Vs138
          replace Fs138 := F0.tr Fs138
          refine gb2 ey ?_
          obtain ⟨sz, ey, Mz, Vz, Fz⟩ := ih _ _ _ Ms138 hx
          exact ⟨sz, ey, Mz, Vz, Fs138.tr Fz⟩
def mx_X7_run (μ : Mu) (p1 : Int32) (p2 : Int32) : Option (Int32 × Mu) := (if p2 < (0 : Int32) then some ((-2 : Int32), μ) else (if p2 ≤ (10000 : Int32) then (bm (uS μ 825 (-1 : Int32)) fun m4 => (bm (uS m4 826 (0 : Int32)) fun m7 => (bm (uS m7 827 (-1 : Int32)) fun m10 => (bm (uS m10 823 (0 : Int32)) fun m13 => (if p1 < (0 : Int32) then (bm (uS m13 826 (1 : Int32)) fun m17 => some ((2 : Int32), m17)) else (if p1 < (mS m13 804) then (if ((50000 : Int32) - (mS m13 824)) ≤ p2 then (bm (uS m13 822 ((50000 : Int32) - (mS m13 824))) fun m22 => (bm (uS m22 820 (0 : Int32)) fun m25 => (bm (uS m25 819 (-1 : Int32)) fun m28 => (bm (uS m28 818 (0 : Int32)) fun m31 => (b2 (mx_X7_enter m31 p1) fun r36 m35 => lq_X7_run 1000010 m35 p1 p2))))) else (bm (uS m13 822 p2) fun m81 => (bm (uS m81 820 (0 : Int32)) fun m84 => (bm (uS m84 819 (-1 : Int32)) fun m87 => (bm (uS m87 818 (0 : Int32)) fun m90 => (b2 (mx_X7_enter m90 p1) fun r95 m94 => lq_X7_run 1000010 m94 p1 p2)))))) else (bm (uS m13 826 (1 : Int32)) fun m140 => some ((2 : Int32), m140)))))))) else some ((-2 : Int32), μ)))
set_option maxHeartbeats 1000000 in
theorem mm_X7_run {d : Dp} {σ : Sg} {h0 : Nat} {ma : Nat → Nat} {p1 : Int32} {p2 : Int32} {r : Int32} {μ' : Mu} (M0 : MS σ h0 ma) (hx : mx_X7_run (Vw σ h0 ma) p1 p2 = some (r, μ')) : ∃ σ', ex_X7_run d σ h0 p1 p2 = some (r, σ') ∧ MS σ' h0 ma ∧ Vw σ' h0 ma = μ' ∧ Fq σ σ' := by
  have F0 := Fq.rf σ
  unfold mx_X7_run at hx
  unfold ex_X7_run
  by_cases c1 : p2 < (0 : Int32)
  · replace hx := ift c1 hx
    refine git c1 ?_
    obtain ⟨rfl, rfl⟩ := lf2 hx
    exact ⟨_, rfl, M0, rfl, F0⟩
  · replace hx := iff' c1 hx
    refine gif c1 ?_
    by_cases c2 : p2 ≤ (10000 : Int32)
    · replace hx := ift c2 hx
      refine git c2 ?_
      refine gck M0.g ?_
      obtain ⟨m4, em, hx⟩ := nbm hx
      refine gbn (fun s4 es => ?_)
      obtain ⟨Ms4, Vs4, Fs4⟩ := M0.upS (by decide) es em
      subst Vs4
      replace Fs4 := F0.tr Fs4
      refine gck Ms4.g ?_
      obtain ⟨m7, em, hx⟩ := nbm hx
      refine gbn (fun s7 es => ?_)
      obtain ⟨Ms7, Vs7, Fs7⟩ := Ms4.upS (by decide) es em
      subst Vs7
      replace Fs7 := Fs4.tr Fs7
      refine gck Ms7.g ?_
      obtain ⟨m10, em, hx⟩ := nbm hx
      refine gbn (fun s10 es => ?_)
      obtain ⟨Ms10, Vs10, Fs10⟩ := Ms7.upS (by decide) es em
      subst Vs10
      replace Fs10 := Fs7.tr Fs10
      refine gck Ms10.g ?_
      obtain ⟨m13, em, hx⟩ := nbm hx
      refine gbn (fun s13 es => ?_)
      obtain ⟨Ms13, Vs13, Fs13⟩ := Ms10.upS (by decide) es em
      subst Vs13
      replace Fs13 := Fs10.tr Fs13
      by_cases c15 : p1 < (0 : Int32)
      · replace hx := ift c15 hx
        refine git c15 ?_
        refine gck Ms13.g ?_
        obtain ⟨m17, em, hx⟩ := nbm hx
        refine gbn (fun s17 es => ?_)
        obtain ⟨Ms17, Vs17, Fs17⟩ := Ms13.upS (by decide) es em
        subst Vs17
        replace Fs17 := Fs13.tr Fs17
        obtain ⟨rfl, rfl⟩ := lf2 hx
        exact ⟨_, rfl, Ms17, rfl, Fs17⟩
      · replace hx := iff' c15 hx
        refine gif c15 ?_
        refine gck Ms13.g ?_
        by_cases c20 : p1 < (gi s13 804 h0)
        · replace hx := ift c20 hx
          refine git c20 ?_
          by_cases c21 : ((50000 : Int32) - (gi s13 824 h0)) ≤ p2
          · replace hx := ift c21 hx
            refine git c21 ?_
            obtain ⟨m22, em, hx⟩ := nbm hx
            refine gbn (fun s22 es => ?_)
            obtain ⟨Ms22, Vs22, Fs22⟩ := Ms13.upS (by decide) es em
            subst Vs22
            replace Fs22 := Fs13.tr Fs22
            refine gck Ms22.g ?_
            obtain ⟨m25, em, hx⟩ := nbm hx
            refine gbn (fun s25 es => ?_)
            obtain ⟨Ms25, Vs25, Fs25⟩ := Ms22.upS (by decide) es em
            subst Vs25
            replace Fs25 := Fs22.tr Fs25
            refine gck Ms25.g ?_
            obtain ⟨m28, em, hx⟩ := nbm hx
            refine gbn (fun s28 es => ?_)
            obtain ⟨Ms28, Vs28, Fs28⟩ := Ms25.upS (by decide) es em
            subst Vs28
            replace Fs28 := Fs25.tr Fs28
            refine gck Ms28.g ?_
            obtain ⟨m31, em, hx⟩ := nbm hx
            refine gbn (fun s31 es => ?_)
            obtain ⟨Ms31, Vs31, Fs31⟩ := Ms28.upS (by decide) es em
            subst Vs31
            replace Fs31 := Fs28.tr Fs31
            refine gck Ms31.g ?_
            obtain ⟨r36, m35, hy, hx⟩ := nb2 hx
            obtain ⟨s35, ey, Ms35, Vs35, Fs35⟩ := mm_X7_enter (d := d) Ms31 hy
            subst Vs35
            replace Fs35 := Fs31.tr Fs35
            refine gb2 ey ?_
            obtain ⟨sz, ey, Mz, Vz, Fz⟩ := mml_X7_run (d := d) _ _ _ _ Ms35 hx
            exact ⟨sz, ey, Mz, Vz, Fs35.tr Fz⟩
          · replace hx := iff' c21 hx
            refine gif c21 ?_
            obtain ⟨m81, em, hx⟩ := nbm hx
            refine gbn (fun s81 es => ?_)
            obtain ⟨Ms81, Vs81, Fs81⟩ := Ms13.upS (by decide) es em
            subst Vs81
            replace Fs81 := Fs13.tr Fs81
            refine gck Ms81.g ?_
            obtain ⟨m84, em, hx⟩ := nbm hx
            refine gbn (fun s84 es => ?_)
            obtain ⟨Ms84, Vs84, Fs84⟩ := Ms81.upS (by decide) es em
            subst Vs84
            replace Fs84 := Fs81.tr Fs84
            refine gck Ms84.g ?_
            obtain ⟨m87, em, hx⟩ := nbm hx
            refine gbn (fun s87 es => ?_)
            obtain ⟨Ms87, Vs87, Fs87⟩ := Ms84.upS (by decide) es em
            subst Vs87
            replace Fs87 := Fs84.tr Fs87
            refine gck Ms87.g ?_
            obtain ⟨m90, em, hx⟩ := nbm hx
            refine gbn (fun s90 es => ?_)
            obtain ⟨Ms90, Vs90, Fs90⟩ := Ms87.upS (by decide) es em
            subst Vs90
            replace Fs90 := Fs87.tr Fs90
            refine gck Ms90.g ?_
            obtain ⟨r95, m94, hy, hx⟩ := nb2 hx
            obtain ⟨s94, ey, Ms94, Vs94, Fs94⟩ := mm_X7_enter (d := d) Ms90 hy
            subst Vs94
            replace Fs94 := Fs90.tr Fs94
            refine gb2 ey ?_
            obtain ⟨sz, ey, Mz, Vz, Fz⟩ := mml_X7_run (d := d) _ _ _ _ Ms94 hx
            exact ⟨sz, ey, Mz, Vz, Fs94.tr Fz⟩
        · replace hx := iff' c20 hx
          refine gif c20 ?_
          obtain ⟨m140, em, hx⟩ := nbm hx
          refine gbn (fun s140 es => ?_)
          obtain ⟨Ms140, Vs140, Fs140⟩ := Ms13.upS (by decide) es em
          subst Vs140
          replace Fs140 := Fs13.tr Fs140
          obtain ⟨rfl, rfl⟩ := lf2 hx
          exact ⟨_, rfl, Ms140, rfl, Fs140⟩
    · replace hx := iff' c2 hx
      refine gif c2 ?_
      obtain ⟨rfl, rfl⟩ := lf2 hx
      exact ⟨_, rfl, M0, rfl, F0⟩
def mx_X7_thingAt (μ : Mu) (p1 : Int32) : Option (Int32 × Mu) := (if p1 = (-1 : Int32) then some (mS μ 825, μ) else (if p1 < (0 : Int32) then some ((-1 : Int32), μ) else (if p1 ≤ (255 : Int32) then (if ¬ (p1 < 0 ∨ 256 ≤ Int32.toNatClampNeg p1) then some (mI μ 9 (Int32.toNatClampNeg p1), μ) else none) else some ((-1 : Int32), μ))))
set_option maxHeartbeats 1000000 in
theorem mm_X7_thingAt {d : Dp} {σ : Sg} {h0 : Nat} {ma : Nat → Nat} {p1 : Int32} {r : Int32} {μ' : Mu} (M0 : MS σ h0 ma) (hx : mx_X7_thingAt (Vw σ h0 ma) p1 = some (r, μ')) : ∃ σ', ex_X7_thingAt d σ h0 p1 = some (r, σ') ∧ MS σ' h0 ma ∧ Vw σ' h0 ma = μ' ∧ Fq σ σ' := by
  have F0 := Fq.rf σ
  unfold mx_X7_thingAt at hx
  unfold ex_X7_thingAt
  by_cases c1 : p1 = (-1 : Int32)
  · replace hx := ift c1 hx
    refine git c1 ?_
    refine gck M0.g ?_
    obtain ⟨rfl, rfl⟩ := lf2 hx
    exact ⟨_, rfl, M0, rfl, F0⟩
  · replace hx := iff' c1 hx
    refine gif c1 ?_
    by_cases c2 : p1 < (0 : Int32)
    · replace hx := ift c2 hx
      refine git c2 ?_
      obtain ⟨rfl, rfl⟩ := lf2 hx
      exact ⟨_, rfl, M0, rfl, F0⟩
    · replace hx := iff' c2 hx
      refine gif c2 ?_
      by_cases c3 : p1 ≤ (255 : Int32)
      · replace hx := ift c3 hx
        refine git c3 ?_
        refine gck M0.g ?_
        refine gnn (M0.p 9 (by decide)) ?_
        refine gck (M0.c 9 (by decide)) ?_
        obtain ⟨g8, hx⟩ := ck hx
        refine gck (M0.b 9 (by decide) g8) ?_
        obtain ⟨rfl, rfl⟩ := lf2 hx
        exact ⟨_, rfl, M0, rfl, F0⟩
      · replace hx := iff' c3 hx
        refine gif c3 ?_
        obtain ⟨rfl, rfl⟩ := lf2 hx
        exact ⟨_, rfl, M0, rfl, F0⟩
def mx_X7_value (μ : Mu) (p1 : Int32) : Option (Int64 × Mu) := (b2 (mx_X7_thingAt μ p1) fun r4 m3 => (if r4 = (-1 : Int32) then some ((0 : Int64), m3) else (if ¬ (r4 < 0 ∨ 50000 ≤ Int32.toNatClampNeg r4) then (if (mI m3 4 (Int32.toNatClampNeg r4)) = (1 : Int32) then (if ¬ (r4 < 0 ∨ 50000 ≤ Int32.toNatClampNeg r4) then some (mJ m3 7 (Int32.toNatClampNeg r4), m3) else none) else (if ¬ (r4 < 0 ∨ 50000 ≤ Int32.toNatClampNeg r4) then (if (mI m3 4 (Int32.toNatClampNeg r4)) = (6 : Int32) then (if ¬ (r4 < 0 ∨ 50000 ≤ Int32.toNatClampNeg r4) then some (mJ m3 7 (Int32.toNatClampNeg r4), m3) else none) else some ((0 : Int64), m3)) else none)) else none)))
set_option maxHeartbeats 1000000 in
theorem mm_X7_value {d : Dp} {σ : Sg} {h0 : Nat} {ma : Nat → Nat} {p1 : Int32} {r : Int64} {μ' : Mu} (M0 : MS σ h0 ma) (hx : mx_X7_value (Vw σ h0 ma) p1 = some (r, μ')) : ∃ σ', ex_X7_value d σ h0 p1 = some (r, σ') ∧ MS σ' h0 ma ∧ Vw σ' h0 ma = μ' ∧ Fq σ σ' := by
  have F0 := Fq.rf σ
  unfold mx_X7_value at hx
  unfold ex_X7_value
  refine gck M0.g ?_
  obtain ⟨r4, m3, hy, hx⟩ := nb2 hx
  obtain ⟨s3, ey, Ms3, Vs3, Fs3⟩ := mm_X7_thingAt (d := d) M0 hy
  subst Vs3
  replace Fs3 := F0.tr Fs3
  refine gb2 ey ?_
  by_cases c5 : r4 = (-1 : Int32)
  · replace hx := ift c5 hx
    refine git c5 ?_
    obtain ⟨rfl, rfl⟩ := lf2 hx
    exact ⟨_, rfl, Ms3, rfl, Fs3⟩
  · replace hx := iff' c5 hx
    refine gif c5 ?_
    refine gck Ms3.g ?_
    refine gnn (Ms3.p 4 (by decide)) ?_
    refine gck (Ms3.c 4 (by decide)) ?_
    obtain ⟨g10, hx⟩ := ck hx
    refine gck (Ms3.b 4 (by decide) g10) ?_
    by_cases c11 : (ai s3 (ma 4) (Int32.toNatClampNeg r4)) = (1 : Int32)
    · replace hx := ift c11 hx
      refine git c11 ?_
      refine gnn (Ms3.p 7 (by decide)) ?_
      refine gck (Ms3.c 7 (by decide)) ?_
      obtain ⟨g15, hx⟩ := ck hx
      refine gck (Ms3.b 7 (by decide) g15) ?_
      obtain ⟨rfl, rfl⟩ := lf2 hx
      exact ⟨_, rfl, Ms3, rfl, Fs3⟩
    · replace hx := iff' c11 hx
      refine gif c11 ?_
      obtain ⟨g16, hx⟩ := ck hx
      refine gck (Ms3.b 4 (by decide) g16) ?_
      by_cases c17 : (ai s3 (ma 4) (Int32.toNatClampNeg r4)) = (6 : Int32)
      · replace hx := ift c17 hx
        refine git c17 ?_
        refine gnn (Ms3.p 7 (by decide)) ?_
        refine gck (Ms3.c 7 (by decide)) ?_
        obtain ⟨g21, hx⟩ := ck hx
        refine gck (Ms3.b 7 (by decide) g21) ?_
        obtain ⟨rfl, rfl⟩ := lf2 hx
        exact ⟨_, rfl, Ms3, rfl, Fs3⟩
      · replace hx := iff' c17 hx
        refine gif c17 ?_
        obtain ⟨rfl, rfl⟩ := lf2 hx
        exact ⟨_, rfl, Ms3, rfl, Fs3⟩
