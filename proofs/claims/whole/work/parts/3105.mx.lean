def mx_X7_larger (μ : Mu) (p1 : Int32) (p2 : Int32) (p3 : Int32) (p4 : Int32) : Option (Int32 × Mu) := (if ¬ (p1 < 0 ∨ 4000 ≤ Int32.toNatClampNeg p1) then (if (mI μ 1 (Int32.toNatClampNeg p1)) = 11 then (b2 (mx_X7_is μ p1 p3 (1 : Int32)) fun r9 m8 => (if r9 = (0 : Int32) then some ((-1 : Int32), m8) else (if ¬ (p3 < 0 ∨ 50000 ≤ Int32.toNatClampNeg p3) then (b2 (mx_X7_newRow m8 p1 (Int64.toInt32 (mJ m8 7 (Int32.toNatClampNeg p3)))) fun r18 m17 => some (r18, m17)) else none))) else (if (mI μ 1 (Int32.toNatClampNeg p1)) = 12 ∨ (mI μ 1 (Int32.toNatClampNeg p1)) = 13 then (b2 (mx_X7_is μ p1 p2 (5 : Int32)) fun r22 m21 => (if r22 = (0 : Int32) then some ((-1 : Int32), m21) else (b2 (mx_X7_is m21 p1 p3 (1 : Int32)) fun r27 m26 => (if r27 = (0 : Int32) then some ((-1 : Int32), m26) else (if ¬ (p3 < 0 ∨ 50000 ≤ Int32.toNatClampNeg p3) then (b2 (mx_X7_inRow m26 p1 p2 (Int64.toInt32 (mJ m26 7 (Int32.toNatClampNeg p3))) p4) fun r36 m35 => some (r36, m35)) else none))))) else (if (mI μ 1 (Int32.toNatClampNeg p1)) = 14 then (b2 (mx_X7_is μ p1 p2 (5 : Int32)) fun r40 m39 => (if r40 = (0 : Int32) then some ((-1 : Int32), m39) else (if ¬ (p2 < 0 ∨ 50000 ≤ Int32.toNatClampNeg p2) then (if (mI m39 5 (Int32.toNatClampNeg p2)) = (-1 : Int32) then (b2 (mx_X7_fail m39 (1 : Int32) p1) fun r54 m53 => some (r54, m53)) else (if ¬ (p2 < 0 ∨ 50000 ≤ Int32.toNatClampNeg p2) then (b2 (mx_X7_num m39 (Int32.toInt64 (mI m39 5 (Int32.toNatClampNeg p2)))) fun r51 m50 => some (r51, m50)) else none)) else none))) else (if (mI μ 1 (Int32.toNatClampNeg p1)) = 16 then (if (mS μ 813) = (-1 : Int32) then (b2 (mx_X7_fail μ (1 : Int32) p1) fun r62 m61 => some (r62, m61)) else (b2 (mx_X7_fail μ (7 : Int32) p1) fun r59 m58 => some (r59, m58))) else (if (mI μ 1 (Int32.toNatClampNeg p1)) = 17 then (b2 (mx_X7_is μ p1 p2 (1 : Int32)) fun r66 m65 => (if r66 = (0 : Int32) then some ((-1 : Int32), m65) else (if ¬ (p2 < 0 ∨ 50000 ≤ Int32.toNatClampNeg p2) then (b2 (mx_X7_make m65 (6 : Int32) (mJ m65 7 (Int32.toNatClampNeg p2)) (-1 : Int32) (-1 : Int32)) fun r75 m74 => (bm (uS m74 813 r75) fun m77 => some (mS m77 813, m77))) else none))) else some (p3, μ)))))) else none)
set_option maxHeartbeats 1000000 in
theorem mm_X7_larger {d : Dp} {σ : Sg} {h0 : Nat} {ma : Nat → Nat} {p1 : Int32} {p2 : Int32} {p3 : Int32} {p4 : Int32} {r : Int32} {μ' : Mu} (M0 : MS σ h0 ma) (hx : mx_X7_larger (Vw σ h0 ma) p1 p2 p3 p4 = some (r, μ')) : ∃ σ', ex_X7_larger d σ h0 p1 p2 p3 p4 = some (r, σ') ∧ MS σ' h0 ma ∧ Vw σ' h0 ma = μ' ∧ Fq σ σ' := by
  have F0 := Fq.rf σ
  unfold mx_X7_larger at hx
  unfold ex_X7_larger
  refine gck M0.g ?_
  refine gnn (M0.p 1 (by decide)) ?_
  refine gck (M0.c 1 (by decide)) ?_
  obtain ⟨g5, hx⟩ := ck hx
  refine gck (M0.b 1 (by decide) g5) ?_
  by_cases c6 : (ai σ (ma 1) (Int32.toNatClampNeg p1)) = 11
  · replace hx := ift c6 hx
    refine git c6 ?_
    obtain ⟨r9, m8, hy, hx⟩ := nb2 hx
    obtain ⟨s8, ey, Ms8, Vs8, Fs8⟩ := mm_X7_is (d := d) M0 hy
    subst Vs8
    replace Fs8 := F0.tr Fs8
    refine gb2 ey ?_
    by_cases c10 : r9 = (0 : Int32)
    · replace hx := ift c10 hx
      refine git c10 ?_
      obtain ⟨rfl, rfl⟩ := lf2 hx
      exact ⟨_, rfl, Ms8, rfl, Fs8⟩
    · replace hx := iff' c10 hx
      refine gif c10 ?_
      refine gck Ms8.g ?_
      refine gnn (Ms8.p 7 (by decide)) ?_
      refine gck (Ms8.c 7 (by decide)) ?_
      obtain ⟨g15, hx⟩ := ck hx
      refine gck (Ms8.b 7 (by decide) g15) ?_
      obtain ⟨r18, m17, hy, hx⟩ := nb2 hx
      obtain ⟨s17, ey, Ms17, Vs17, Fs17⟩ := mm_X7_newRow (d := d) Ms8 hy
      subst Vs17
      replace Fs17 := Fs8.tr Fs17
      refine gb2 ey ?_
      obtain ⟨rfl, rfl⟩ := lf2 hx
      exact ⟨_, rfl, Ms17, rfl, Fs17⟩
  · replace hx := iff' c6 hx
    refine gif c6 ?_
    by_cases c19 : (ai σ (ma 1) (Int32.toNatClampNeg p1)) = 12 ∨ (ai σ (ma 1) (Int32.toNatClampNeg p1)) = 13
    · replace hx := ift c19 hx
      refine git c19 ?_
      obtain ⟨r22, m21, hy, hx⟩ := nb2 hx
      obtain ⟨s21, ey, Ms21, Vs21, Fs21⟩ := mm_X7_is (d := d) M0 hy
      subst Vs21
      replace Fs21 := F0.tr Fs21
      refine gb2 ey ?_
      by_cases c23 : r22 = (0 : Int32)
      · replace hx := ift c23 hx
        refine git c23 ?_
        obtain ⟨rfl, rfl⟩ := lf2 hx
        exact ⟨_, rfl, Ms21, rfl, Fs21⟩
      · replace hx := iff' c23 hx
        refine gif c23 ?_
        refine gck Ms21.g ?_
        obtain ⟨r27, m26, hy, hx⟩ := nb2 hx
        obtain ⟨s26, ey, Ms26, Vs26, Fs26⟩ := mm_X7_is (d := d) Ms21 hy
        subst Vs26
        replace Fs26 := Fs21.tr Fs26
        refine gb2 ey ?_
        by_cases c28 : r27 = (0 : Int32)
        · replace hx := ift c28 hx
          refine git c28 ?_
          obtain ⟨rfl, rfl⟩ := lf2 hx
          exact ⟨_, rfl, Ms26, rfl, Fs26⟩
        · replace hx := iff' c28 hx
          refine gif c28 ?_
          refine gck Ms26.g ?_
          refine gnn (Ms26.p 7 (by decide)) ?_
          refine gck (Ms26.c 7 (by decide)) ?_
          obtain ⟨g33, hx⟩ := ck hx
          refine gck (Ms26.b 7 (by decide) g33) ?_
          obtain ⟨r36, m35, hy, hx⟩ := nb2 hx
          obtain ⟨s35, ey, Ms35, Vs35, Fs35⟩ := mm_X7_inRow (d := d) Ms26 hy
          subst Vs35
          replace Fs35 := Fs26.tr Fs35
          refine gb2 ey ?_
          obtain ⟨rfl, rfl⟩ := lf2 hx
          exact ⟨_, rfl, Ms35, rfl, Fs35⟩
    · replace hx := iff' c19 hx
      refine gif c19 ?_
      by_cases c37 : (ai σ (ma 1) (Int32.toNatClampNeg p1)) = 14
      · replace hx := ift c37 hx
        refine git c37 ?_
        obtain ⟨r40, m39, hy, hx⟩ := nb2 hx
        obtain ⟨s39, ey, Ms39, Vs39, Fs39⟩ := mm_X7_is (d := d) M0 hy
        subst Vs39
        replace Fs39 := F0.tr Fs39
        refine gb2 ey ?_
        by_cases c41 : r40 = (0 : Int32)
        · replace hx := ift c41 hx
          refine git c41 ?_
          obtain ⟨rfl, rfl⟩ := lf2 hx
          exact ⟨_, rfl, Ms39, rfl, Fs39⟩
        · replace hx := iff' c41 hx
          refine gif c41 ?_
          refine gck Ms39.g ?_
          refine gnn (Ms39.p 5 (by decide)) ?_
          refine gck (Ms39.c 5 (by decide)) ?_
          obtain ⟨g46, hx⟩ := ck hx
          refine gck (Ms39.b 5 (by decide) g46) ?_
          by_cases c47 : (ai s39 (ma 5) (Int32.toNatClampNeg p2)) = (-1 : Int32)
          · replace hx := ift c47 hx
            refine git c47 ?_
            obtain ⟨r54, m53, hy, hx⟩ := nb2 hx
            obtain ⟨s53, ey, Ms53, Vs53, Fs53⟩ := mm_X7_fail (d := d) Ms39 hy
            subst Vs53
            replace Fs53 := Fs39.tr Fs53
            refine gb2 ey ?_
            obtain ⟨rfl, rfl⟩ := lf2 hx
            exact ⟨_, rfl, Ms53, rfl, Fs53⟩
          · replace hx := iff' c47 hx
            refine gif c47 ?_
            obtain ⟨g48, hx⟩ := ck hx
            refine gck (Ms39.b 5 (by decide) g48) ?_
            obtain ⟨r51, m50, hy, hx⟩ := nb2 hx
            obtain ⟨s50, ey, Ms50, Vs50, Fs50⟩ := mm_X7_num (d := d) Ms39 hy
            subst Vs50
            replace Fs50 := Fs39.tr Fs50
            refine gb2 ey ?_
            obtain ⟨rfl, rfl⟩ := lf2 hx
            exact ⟨_, rfl, Ms50, rfl, Fs50⟩
      · replace hx := iff' c37 hx
        refine gif c37 ?_
        by_cases c55 : (ai σ (ma 1) (Int32.toNatClampNeg p1)) = 16
        · replace hx := ift c55 hx
          refine git c55 ?_
          by_cases c56 : (gi σ 813 h0) = (-1 : Int32)
          · replace hx := ift c56 hx
            refine git c56 ?_
            obtain ⟨r62, m61, hy, hx⟩ := nb2 hx
            obtain ⟨s61, ey, Ms61, Vs61, Fs61⟩ := mm_X7_fail (d := d) M0 hy
            subst Vs61
            replace Fs61 := F0.tr Fs61
            refine gb2 ey ?_
            obtain ⟨rfl, rfl⟩ := lf2 hx
            exact ⟨_, rfl, Ms61, rfl, Fs61⟩
          · replace hx := iff' c56 hx
            refine gif c56 ?_
            obtain ⟨r59, m58, hy, hx⟩ := nb2 hx
            obtain ⟨s58, ey, Ms58, Vs58, Fs58⟩ := mm_X7_fail (d := d) M0 hy
            subst Vs58
            replace Fs58 := F0.tr Fs58
            refine gb2 ey ?_
            obtain ⟨rfl, rfl⟩ := lf2 hx
            exact ⟨_, rfl, Ms58, rfl, Fs58⟩
        · replace hx := iff' c55 hx
          refine gif c55 ?_
          by_cases c63 : (ai σ (ma 1) (Int32.toNatClampNeg p1)) = 17
          · replace hx := ift c63 hx
            refine git c63 ?_
            obtain ⟨r66, m65, hy, hx⟩ := nb2 hx
            obtain ⟨s65, ey, Ms65, Vs65, Fs65⟩ := mm_X7_is (d := d) M0 hy
            subst Vs65
            replace Fs65 := F0.tr Fs65
            refine gb2 ey ?_
            by_cases c67 : r66 = (0 : Int32)
            · replace hx := ift c67 hx
              refine git c67 ?_
              obtain ⟨rfl, rfl⟩ := lf2 hx
              exact ⟨_, rfl, Ms65, rfl, Fs65⟩
            · replace hx := iff' c67 hx
              refine gif c67 ?_
              refine gck Ms65.g ?_
              refine gnn (Ms65.p 7 (by decide)) ?_
              refine gck (Ms65.c 7 (by decide)) ?_
              obtain ⟨g72, hx⟩ := ck hx
              refine gck (Ms65.b 7 (by decide) g72) ?_
              obtain ⟨r75, m74, hy, hx⟩ := nb2 hx
              obtain ⟨s74, ey, Ms74, Vs74, Fs74⟩ := mm_X7_make (d := d) Ms65 hy
              subst Vs74
              replace Fs74 := Fs65.tr Fs74
              refine gb2 ey ?_
              refine gck Ms74.g ?_
              obtain ⟨m77, em, hx⟩ := nbm hx
              refine gbn (fun s77 es => ?_)
              obtain ⟨Ms77, Vs77, Fs77⟩ := Ms74.upS (by decide) es em
              subst Vs77
              replace Fs77 := Fs74.tr Fs77
              refine gck Ms77.g ?_
              obtain ⟨rfl, rfl⟩ := lf2 hx
              exact ⟨_, rfl, Ms77, rfl, Fs77⟩
          · replace hx := iff' c63 hx
            refine gif c63 ?_
            obtain ⟨rfl, rfl⟩ := lf2 hx
            exact ⟨_, rfl, M0, rfl, F0⟩
def mx_X7_act (μ : Mu) (p1 : Int32) (p2 : Int32) (p3 : Int32) (p4 : Int32) : Option (Int32 × Mu) := (if ¬ (p1 < 0 ∨ 4000 ≤ Int32.toNatClampNeg p1) then (if (10 : Int32) ≤ (mI μ 1 (Int32.toNatClampNeg p1)) then (if ¬ (p1 < 0 ∨ 4000 ≤ Int32.toNatClampNeg p1) then (if (mI μ 1 (Int32.toNatClampNeg p1)) = (10 : Int32) then (b2 (mx_X7_send μ p1 p2 p4) fun r14 m13 => some (r14, m13)) else (b2 (mx_X7_larger μ p1 p2 p3 p4) fun r11 m10 => some (r11, m10))) else none) else (b2 (mx_X7_simple μ p1 p2 p3 p4) fun r17 m16 => some (r17, m16))) else none)
set_option maxHeartbeats 1000000 in
theorem mm_X7_act {d : Dp} {σ : Sg} {h0 : Nat} {ma : Nat → Nat} {p1 : Int32} {p2 : Int32} {p3 : Int32} {p4 : Int32} {r : Int32} {μ' : Mu} (M0 : MS σ h0 ma) (hx : mx_X7_act (Vw σ h0 ma) p1 p2 p3 p4 = some (r, μ')) : ∃ σ', ex_X7_act d σ h0 p1 p2 p3 p4 = some (r, σ') ∧ MS σ' h0 ma ∧ Vw σ' h0 ma = μ' ∧ Fq σ σ' := by
  have F0 := Fq.rf σ
  unfold mx_X7_act at hx
  unfold ex_X7_act
  refine gck M0.g ?_
  refine gnn (M0.p 1 (by decide)) ?_
  refine gck (M0.c 1 (by decide)) ?_
  obtain ⟨g5, hx⟩ := ck hx
  refine gck (M0.b 1 (by decide) g5) ?_
  by_cases c6 : (10 : Int32) ≤ (ai σ (ma 1) (Int32.toNatClampNeg p1))
  · replace hx := ift c6 hx
    refine git c6 ?_
    obtain ⟨g7, hx⟩ := ck hx
    refine gck (M0.b 1 (by decide) g7) ?_
    by_cases c8 : (ai σ (ma 1) (Int32.toNatClampNeg p1)) = (10 : Int32)
    · replace hx := ift c8 hx
      refine git c8 ?_
      obtain ⟨r14, m13, hy, hx⟩ := nb2 hx
      obtain ⟨s13, ey, Ms13, Vs13, Fs13⟩ := mm_X7_send (d := d) M0 hy
      subst Vs13
      replace Fs13 := F0.tr Fs13
      refine gb2 ey ?_
      obtain ⟨rfl, rfl⟩ := lf2 hx
      exact ⟨_, rfl, Ms13, rfl, Fs13⟩
    · replace hx := iff' c8 hx
      refine gif c8 ?_
      obtain ⟨r11, m10, hy, hx⟩ := nb2 hx
      obtain ⟨s10, ey, Ms10, Vs10, Fs10⟩ := mm_X7_larger (d := d) M0 hy
      subst Vs10
      replace Fs10 := F0.tr Fs10
      refine gb2 ey ?_
      obtain ⟨rfl, rfl⟩ := lf2 hx
      exact ⟨_, rfl, Ms10, rfl, Fs10⟩
  · replace hx := iff' c6 hx
    refine gif c6 ?_
    obtain ⟨r17, m16, hy, hx⟩ := nb2 hx
    obtain ⟨s16, ey, Ms16, Vs16, Fs16⟩ := mm_X7_simple (d := d) M0 hy
    subst Vs16
    replace Fs16 := F0.tr Fs16
    refine gb2 ey ?_
    obtain ⟨rfl, rfl⟩ := lf2 hx
    exact ⟨_, rfl, Ms16, rfl, Fs16⟩
def lq_X7_eager : Nat → Mu → Int32 → Int32 → Int32 → Option (Unit × Mu)
  | 0, _, _, _, _ => none
  | f + 1, μ, v1, v2, v3 => (if (3 : Int32) ≤ v2 then (if (3 : Int32) ≤ v2 then (if ¬ (v3 < 0 ∨ 603 ≤ Int32.toNatClampNeg v3) then (if ¬ ((v3 + (1 : Int32)) < 0 ∨ 603 ≤ Int32.toNatClampNeg (v3 + (1 : Int32))) then (if ¬ ((v3 + (2 : Int32)) < 0 ∨ 603 ≤ Int32.toNatClampNeg (v3 + (2 : Int32))) then (b2 (mx_X7_act μ v1 (mI μ 12 (Int32.toNatClampNeg v3)) (mI μ 12 (Int32.toNatClampNeg (v3 + (1 : Int32)))) (mI μ 12 (Int32.toNatClampNeg (v3 + (2 : Int32))))) fun r88 m87 => (if (mS m87 820) = (0 : Int32) then (bm (uS m87 819 r88) fun m91 => (bm (uS m91 818 ((mS m91 818) - (1 : Int32))) fun m94 => some ((), m94))) else some ((), m87))) else none) else none) else none) else (if ¬ ((mS μ 818) < 0 ∨ 201 ≤ Int32.toNatClampNeg (mS μ 818)) then (bm (uI μ 11 (Int32.toNatClampNeg (mS μ 818)) (v2 + (1 : Int32))) fun m101 => (b2 (mx_X7_begin m101 v1 v2) fun r106 m105 => some ((), m105))) else none)) else (b2 (mx_X7_isNode μ v1 v2) fun r110 m109 => (if r110 = (0 : Int32) then lq_X7_eager f m109 v1 (v2 + 1) v3 else (if (3 : Int32) ≤ v2 then (if ¬ (v3 < 0 ∨ 603 ≤ Int32.toNatClampNeg v3) then (if ¬ ((v3 + (1 : Int32)) < 0 ∨ 603 ≤ Int32.toNatClampNeg (v3 + (1 : Int32))) then (if ¬ ((v3 + (2 : Int32)) < 0 ∨ 603 ≤ Int32.toNatClampNeg (v3 + (2 : Int32))) then (b2 (mx_X7_act m109 v1 (mI m109 12 (Int32.toNatClampNeg v3)) (mI m109 12 (Int32.toNatClampNeg (v3 + (1 : Int32)))) (mI m109 12 (Int32.toNatClampNeg (v3 + (2 : Int32))))) fun r122 m121 => (if (mS m121 820) = (0 : Int32) then (bm (uS m121 819 r122) fun m125 => (bm (uS m125 818 ((mS m125 818) - (1 : Int32))) fun m128 => some ((), m128))) else some ((), m121))) else none) else none) else none) else (if ¬ ((mS m109 818) < 0 ∨ 201 ≤ Int32.toNatClampNeg (mS m109 818)) then (bm (uI m109 11 (Int32.toNatClampNeg (mS m109 818)) (v2 + (1 : Int32))) fun m135 => (b2 (mx_X7_begin m135 v1 v2) fun r140 m139 => some ((), m139))) else none)))))
set_option maxHeartbeats 1000000 in
theorem mml_X7_eager {d : Dp} {h0 : Nat} {ma : Nat → Nat} {r : Unit} {μ' : Mu} : ∀ (f : Nat) (σ : Sg) (v1 : Int32) (v2 : Int32) (v3 : Int32), MS σ h0 ma → lq_X7_eager f (Vw σ h0 ma) v1 v2 v3 = some (r, μ') → ∃ σ', lp_X7_eager f d σ h0 v1 v2 v3 = some (r, σ') ∧ MS σ' h0 ma ∧ Vw σ' h0 ma = μ' ∧ Fq σ σ' := by
  intro f
  induction f with
  | zero => intro σ v1 v2 v3 M0 hx; cases hx
  | succ f ih =>
    intro σ v1 v2 v3 M0 hx
    have F0 := Fq.rf σ
    unfold lq_X7_eager at hx
    unfold lp_X7_eager
    by_cases c77 : (3 : Int32) ≤ v2
    · replace hx := ift c77 hx
      refine git c77 ?_
      by_cases c78 : (3 : Int32) ≤ v2
      · replace hx := ift c78 hx
        refine git c78 ?_
        refine gck M0.g ?_
        refine gnn (M0.p 12 (by decide)) ?_
        refine gck (M0.c 12 (by decide)) ?_
        obtain ⟨g83, hx⟩ := ck hx
        refine gck (M0.b 12 (by decide) g83) ?_
        obtain ⟨g84, hx⟩ := ck hx
        refine gck (M0.b 12 (by decide) g84) ?_
        obtain ⟨g85, hx⟩ := ck hx
        refine gck (M0.b 12 (by decide) g85) ?_
        obtain ⟨r88, m87, hy, hx⟩ := nb2 hx
        obtain ⟨s87, ey, Ms87, Vs87, Fs87⟩ := mm_X7_act (d := d) M0 hy
        subst Vs87
        replace Fs87 := F0.tr Fs87
        refine gb2 ey ?_
        refine gck Ms87.g ?_
        by_cases c90 : (gi s87 820 h0) = (0 : Int32)
        · replace hx := ift c90 hx
          refine git c90 ?_
          obtain ⟨m91, em, hx⟩ := nbm hx
          refine gbn (fun s91 es => ?_)
          obtain ⟨Ms91, Vs91, Fs91⟩ := Ms87.upS (by decide) es em
          subst Vs91
          replace Fs91 := Fs87.tr Fs91
          refine gck Ms91.g ?_
          obtain ⟨m94, em, hx⟩ := nbm hx
          refine gbn (fun s94 es => ?_)
          obtain ⟨Ms94, Vs94, Fs94⟩ := Ms91.upS (by decide) es em
          subst Vs94
          replace Fs94 := Fs91.tr Fs94
          obtain ⟨rfl, rfl⟩ := lf2 hx
          exact ⟨_, rfl, Ms94, rfl, Fs94⟩
        · replace hx := iff' c90 hx
          refine gif c90 ?_
          obtain ⟨rfl, rfl⟩ := lf2 hx
          exact ⟨_, rfl, Ms87, rfl, Fs87⟩
      · replace hx := iff' c78 hx
        refine gif c78 ?_
        refine gck M0.g ?_
        refine gnn (M0.p 11 (by decide)) ?_
        refine gck (M0.c 11 (by decide)) ?_
        obtain ⟨g100, hx⟩ := ck hx
        refine gck (M0.b 11 (by decide) g100) ?_
        obtain ⟨m101, em, hx⟩ := nbm hx
        refine gbn (fun s101 es => ?_)
        obtain ⟨Ms101, Vs101, Fs101⟩ := M0.upI (k := 11) (by decide) es em
        subst Vs101
        replace Fs101 := F0.tr Fs101
        refine gck Ms101.g ?_
        obtain ⟨r106, m105, hy, hx⟩ := nb2 hx
        obtain ⟨s105, ey, Ms105, Vs105, Fs105⟩ := mm_X7_begin (d := d) Ms101 hy
        subst Vs105
        replace Fs105 := Fs101.tr Fs105
        refine gb2 ey ?_
        obtain ⟨rfl, rfl⟩ := lf2 hx
        exact ⟨_, rfl, Ms105, rfl, Fs105⟩
    · replace hx := iff' c77 hx
      refine gif c77 ?_
      refine gck M0.g ?_
      obtain ⟨r110, m109, hy, hx⟩ := nb2 hx
      obtain ⟨s109, ey, Ms109, Vs109, Fs109⟩ := mm_X7_isNode (d := d) M0 hy
      subst Vs109
      replace Fs109 := F0.tr Fs109
      refine gb2 ey ?_
      by_cases c111 : r110 = (0 : Int32)
      · replace hx := ift c111 hx
        refine git c111 ?_
        obtain ⟨sz, ey, Mz, Vz, Fz⟩ := ih _ _ _ _ Ms109 hx
        exact ⟨sz, ey, Mz, Vz, Fs109.tr Fz⟩
      · replace hx := iff' c111 hx
        refine gif c111 ?_
        by_cases c112 : (3 : Int32) ≤ v2
        · replace hx := ift c112 hx
          refine git c112 ?_
          refine gck Ms109.g ?_
          refine gnn (Ms109.p 12 (by decide)) ?_
          refine gck (Ms109.c 12 (by decide)) ?_
          obtain ⟨g117, hx⟩ := ck hx
          refine gck (Ms109.b 12 (by decide) g117) ?_
          obtain ⟨g118, hx⟩ := ck hx
          refine gck (Ms109.b 12 (by decide) g118) ?_
          obtain ⟨g119, hx⟩ := ck hx
          refine gck (Ms109.b 12 (by decide) g119) ?_
          obtain ⟨r122, m121, hy, hx⟩ := nb2 hx
          obtain ⟨s121, ey, Ms121, Vs121, Fs121⟩ := mm_X7_act (d := d) Ms109 hy
          subst Vs121
          replace Fs121 := Fs109.tr Fs121
          refine gb2 ey ?_
          refine gck Ms121.g ?_
          by_cases c124 : (gi s121 820 h0) = (0 : Int32)
          · replace hx := ift c124 hx
            refine git c124 ?_
            obtain ⟨m125, em, hx⟩ := nbm hx
            refine gbn (fun s125 es => ?_)
            obtain ⟨Ms125, Vs125, Fs125⟩ := Ms121.upS (by decide) es em
            subst Vs125
            replace Fs125 := Fs121.tr Fs125
            refine gck Ms125.g ?_
            obtain ⟨m128, em, hx⟩ := nbm hx
            refine gbn (fun s128 es => ?_)
            obtain ⟨Ms128, Vs128, Fs128⟩ := Ms125.upS (by decide) es em
            subst Vs128
            replace Fs128 := Fs125.tr Fs128
            obtain ⟨rfl, rfl⟩ := lf2 hx
            exact ⟨_, rfl, Ms128, rfl, Fs128⟩
          · replace hx := iff' c124 hx
            refine gif c124 ?_
            obtain ⟨rfl, rfl⟩ := lf2 hx
            exact ⟨_, rfl, Ms121, rfl, Fs121⟩
        · replace hx := iff' c112 hx
          refine gif c112 ?_
          refine gck Ms109.g ?_
          refine gnn (Ms109.p 11 (by decide)) ?_
          refine gck (Ms109.c 11 (by decide)) ?_
          obtain ⟨g134, hx⟩ := ck hx
          refine gck (Ms109.b 11 (by decide) g134) ?_
          obtain ⟨m135, em, hx⟩ := nbm hx
          refine gbn (fun s135 es => ?_)
          obtain ⟨Ms135, Vs135, Fs135⟩ := Ms109.upI (k := 11) (by decide) es em
          subst Vs135
          replace Fs135 := Fs109.tr Fs135
          refine gck Ms135.g ?_
          obtain ⟨r140, m139, hy, hx⟩ := nb2 hx
          obtain ⟨s139, ey, Ms139, Vs139, Fs139⟩ := mm_X7_begin (d := d) Ms135 hy
          subst Vs139
          replace Fs139 := Fs135.tr Fs139
          refine gb2 ey ?_
          obtain ⟨rfl, rfl⟩ := lf2 hx
          exact ⟨_, rfl, Ms139, rfl, Fs139⟩
def mx_X7_eager (μ : Mu) (p1 : Int32) : Option (Unit × Mu) := (if ¬ ((mS μ 818) < 0 ∨ 201 ≤ Int32.toNatClampNeg (mS μ 818)) then (if (mI μ 11 (Int32.toNatClampNeg (mS μ 818))) ≤ (0 : Int32) then lq_X7_eager 300 μ p1 (mI μ 11 (Int32.toNatClampNeg (mS μ 818))) (((3 : Int32) * (mS μ 818)) - (3 : Int32)) else (if ¬ ((((((3 : Int32) * (mS μ 818)) - (3 : Int32)) + (mI μ 11 (Int32.toNatClampNeg (mS μ 818)))) - (1 : Int32)) < 0 ∨ 603 ≤ Int32.toNatClampNeg (((((3 : Int32) * (mS μ 818)) - (3 : Int32)) + (mI μ 11 (Int32.toNatClampNeg (mS μ 818)))) - (1 : Int32))) then (bm (uI μ 12 (Int32.toNatClampNeg (((((3 : Int32) * (mS μ 818)) - (3 : Int32)) + (mI μ 11 (Int32.toNatClampNeg (mS μ 818)))) - (1 : Int32))) (mS μ 819)) fun m75 => lq_X7_eager 300 m75 p1 (mI μ 11 (Int32.toNatClampNeg (mS μ 818))) (((3 : Int32) * (mS μ 818)) - (3 : Int32))) else none)) else none)
set_option maxHeartbeats 1000000 in
theorem mm_X7_eager {d : Dp} {σ : Sg} {h0 : Nat} {ma : Nat → Nat} {p1 : Int32} {r : Unit} {μ' : Mu} (M0 : MS σ h0 ma) (hx : mx_X7_eager (Vw σ h0 ma) p1 = some (r, μ')) : ∃ σ', ex_X7_eager d σ h0 p1 = some (r, σ') ∧ MS σ' h0 ma ∧ Vw σ' h0 ma = μ' ∧ Fq σ σ' := by
  have F0 := Fq.rf σ
  unfold mx_X7_eager at hx
  unfold ex_X7_eager
  refine gck M0.g ?_
  refine gnn (M0.p 11 (by decide)) ?_
  refine gck (M0.c 11 (by decide)) ?_
  obtain ⟨g5, hx⟩ := ck hx
  refine gck (M0.b 11 (by decide) g5) ?_
  by_cases c6 : (ai σ (ma 11) (Int32.toNatClampNeg (gi σ 818 h0))) ≤ (0 : Int32)
  · replace hx := ift c6 hx
    refine git c6 ?_
    obtain ⟨sz, ey, Mz, Vz, Fz⟩ := mml_X7_eager (d := d) _ _ _ _ _ M0 hx
    exact ⟨sz, ey, Mz, Vz, F0.tr Fz⟩
  · replace hx := iff' c6 hx
    refine gif c6 ?_
    refine gnn (M0.p 12 (by decide)) ?_
    refine gck (M0.c 12 (by decide)) ?_
    obtain ⟨g74, hx⟩ := ck hx
    refine gck (M0.b 12 (by decide) g74) ?_
    obtain ⟨m75, em, hx⟩ := nbm hx
    refine gbn (fun s75 es => ?_)
    obtain ⟨Ms75, Vs75, Fs75⟩ := M0.upI (k := 12) (by decide) es em
    subst Vs75
    replace Fs75 := F0.tr Fs75
    obtain ⟨sz, ey, Mz, Vz, Fz⟩ := mml_X7_eager (d := d) _ _ _ _ _ Ms75 hx
    exact ⟨sz, ey, Mz, Vz, Fs75.tr Fz⟩
def mx_X7_forward (μ : Mu) (p1 : Int32) : Option (Unit × Mu) := (if ¬ (p1 < 0 ∨ 4000 ≤ Int32.toNatClampNeg p1) then (if (mI μ 1 (Int32.toNatClampNeg p1)) = (15 : Int32) then (if ¬ ((mS μ 818) < 0 ∨ 201 ≤ Int32.toNatClampNeg (mS μ 818)) then (if (mI μ 11 (Int32.toNatClampNeg (mS μ 818))) ≤ (0 : Int32) then (b2 (mx_X7_part0 μ p1) fun r27 m26 => some ((), m26)) else (bm (uS μ 818 ((mS μ 818) - (1 : Int32))) fun m28 => some ((), m28))) else none) else (if ¬ (p1 < 0 ∨ 4000 ≤ Int32.toNatClampNeg p1) then (if (mI μ 1 (Int32.toNatClampNeg p1)) = (19 : Int32) then (b2 (mx_X7_choose μ p1) fun r19 m18 => some ((), m18)) else (if ¬ (p1 < 0 ∨ 4000 ≤ Int32.toNatClampNeg p1) then (if (mI μ 1 (Int32.toNatClampNeg p1)) = (20 : Int32) then (b2 (mx_X7_again μ p1) fun r16 m15 => some ((), m15)) else (b2 (mx_X7_eager μ p1) fun r13 m12 => some ((), m12))) else none)) else none)) else none)
set_option maxHeartbeats 1000000 in
theorem mm_X7_forward {d : Dp} {σ : Sg} {h0 : Nat} {ma : Nat → Nat} {p1 : Int32} {r : Unit} {μ' : Mu} (M0 : MS σ h0 ma) (hx : mx_X7_forward (Vw σ h0 ma) p1 = some (r, μ')) : ∃ σ', ex_X7_forward d σ h0 p1 = some (r, σ') ∧ MS σ' h0 ma ∧ Vw σ' h0 ma = μ' ∧ Fq σ σ' := by
  have F0 := Fq.rf σ
  unfold mx_X7_forward at hx
  unfold ex_X7_forward
  refine gck M0.g ?_
  refine gnn (M0.p 1 (by decide)) ?_
  refine gck (M0.c 1 (by decide)) ?_
  obtain ⟨g5, hx⟩ := ck hx
  refine gck (M0.b 1 (by decide) g5) ?_
  by_cases c6 : (ai σ (ma 1) (Int32.toNatClampNeg p1)) = (15 : Int32)
  · replace hx := ift c6 hx
    refine git c6 ?_
    refine gnn (M0.p 11 (by decide)) ?_
    refine gck (M0.c 11 (by decide)) ?_
    obtain ⟨g23, hx⟩ := ck hx
    refine gck (M0.b 11 (by decide) g23) ?_
    by_cases c24 : (ai σ (ma 11) (Int32.toNatClampNeg (gi σ 818 h0))) ≤ (0 : Int32)
    · replace hx := ift c24 hx
      refine git c24 ?_
      obtain ⟨r27, m26, hy, hx⟩ := nb2 hx
      obtain ⟨s26, ey, Ms26, Vs26, Fs26⟩ := mm_X7_part0 (d := d) M0 hy
      subst Vs26
      replace Fs26 := F0.tr Fs26
      refine gb2 ey ?_
      obtain ⟨rfl, rfl⟩ := lf2 hx
      exact ⟨_, rfl, Ms26, rfl, Fs26⟩
    · replace hx := iff' c24 hx
      refine gif c24 ?_
      obtain ⟨m28, em, hx⟩ := nbm hx
      refine gbn (fun s28 es => ?_)
      obtain ⟨Ms28, Vs28, Fs28⟩ := M0.upS (by decide) es em
      subst Vs28
      replace Fs28 := F0.tr Fs28
      obtain ⟨rfl, rfl⟩ := lf2 hx
      exact ⟨_, rfl, Ms28, rfl, Fs28⟩
  · replace hx := iff' c6 hx
    refine gif c6 ?_
    obtain ⟨g7, hx⟩ := ck hx
    refine gck (M0.b 1 (by decide) g7) ?_
    by_cases c8 : (ai σ (ma 1) (Int32.toNatClampNeg p1)) = (19 : Int32)
    · replace hx := ift c8 hx
      refine git c8 ?_
      obtain ⟨r19, m18, hy, hx⟩ := nb2 hx
      obtain ⟨s18, ey, Ms18, Vs18, Fs18⟩ := mm_X7_choose (d := d) M0 hy
      subst Vs18
      replace Fs18 := F0.tr Fs18
      refine gb2 ey ?_
      obtain ⟨rfl, rfl⟩ := lf2 hx
      exact ⟨_, rfl, Ms18, rfl, Fs18⟩
    · replace hx := iff' c8 hx
      refine gif c8 ?_
      obtain ⟨g9, hx⟩ := ck hx
      refine gck (M0.b 1 (by decide) g9) ?_
      by_cases c10 : (ai σ (ma 1) (Int32.toNatClampNeg p1)) = (20 : Int32)
      · replace hx := ift c10 hx
        refine git c10 ?_
        obtain ⟨r16, m15, hy, hx⟩ := nb2 hx
        obtain ⟨s15, ey, Ms15, Vs15, Fs15⟩ := mm_X7_again (d := d) M0 hy
        subst Vs15
        replace Fs15 := F0.tr Fs15
        refine gb2 ey ?_
        obtain ⟨rfl, rfl⟩ := lf2 hx
        exact ⟨_, rfl, Ms15, rfl, Fs15⟩
      · replace hx := iff' c10 hx
        refine gif c10 ?_
        obtain ⟨r13, m12, hy, hx⟩ := nb2 hx
        obtain ⟨s12, ey, Ms12, Vs12, Fs12⟩ := mm_X7_eager (d := d) M0 hy
        subst Vs12
        replace Fs12 := F0.tr Fs12
        refine gb2 ey ?_
        obtain ⟨rfl, rfl⟩ := lf2 hx
        exact ⟨_, rfl, Ms12, rfl, Fs12⟩
