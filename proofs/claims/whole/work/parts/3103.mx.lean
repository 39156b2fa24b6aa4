def mx_X7_reckon (μ : Mu) (p1 : Int32) (p2 : Int32) (p3 : Int64) (p4 : Int64) : Option (Int32 × Mu) := (if p2 = (2 : Int32) then (b2 (mx_X7_num μ (p3 + p4)) fun r41 m40 => some (r41, m40)) else (if p2 = (3 : Int32) then (b2 (mx_X7_num μ (p3 - p4)) fun r37 m36 => some (r37, m36)) else (if p2 = (4 : Int32) then (b2 (mx_X7_num μ (p3 * p4)) fun r33 m32 => some (r33, m32)) else (if (lg_cmp p4 (0 : Int64)) = (0 : Int32) then (b2 (mx_X7_fail μ (6 : Int32) p1) fun r29 m28 => some (r29, m28)) else (if (lg_cmp p4 (-1 : Int64)) = (0 : Int32) then (if p2 = (5 : Int32) then (b2 (mx_X7_num μ (-p3)) fun r25 m24 => some (r25, m24)) else (b2 (mx_X7_num μ (0 : Int64)) fun r21 m20 => some (r21, m20))) else (if p2 = (5 : Int32) then (if ¬ p4 = (0 : Int64) then (b2 (mx_X7_num μ (p3 / p4)) fun r16 m15 => some (r16, m15)) else none) else (if ¬ p4 = (0 : Int64) then (b2 (mx_X7_num μ (p3 - p3 / p4 * p4)) fun r11 m10 => some (r11, m10)) else none)))))))
set_option maxHeartbeats 1000000 in
theorem mm_X7_reckon {d : Dp} {σ : Sg} {h0 : Nat} {ma : Nat → Nat} {p1 : Int32} {p2 : Int32} {p3 : Int64} {p4 : Int64} {r : Int32} {μ' : Mu} (M0 : MS σ h0 ma) (hx : mx_X7_reckon (Vw σ h0 ma) p1 p2 p3 p4 = some (r, μ')) : ∃ σ', ex_X7_reckon d σ h0 p1 p2 p3 p4 = some (r, σ') ∧ MS σ' h0 ma ∧ Vw σ' h0 ma = μ' ∧ Fq σ σ' := by
  have F0 := Fq.rf σ
  unfold mx_X7_reckon at hx
  unfold ex_X7_reckon
  by_cases c1 : p2 = (2 : Int32)
  · replace hx := ift c1 hx
    refine git c1 ?_
    refine gck M0.g ?_
    obtain ⟨r41, m40, hy, hx⟩ := nb2 hx
    obtain ⟨s40, ey, Ms40, Vs40, Fs40⟩ := mm_X7_num (d := d) M0 hy
    subst Vs40
    replace Fs40 := F0.tr Fs40
    refine gb2 ey ?_
    obtain ⟨rfl, rfl⟩ := lf2 hx
    exact ⟨_, rfl, Ms40, rfl, Fs40⟩
  · replace hx := iff' c1 hx
    refine gif c1 ?_
    by_cases c2 : p2 = (3 : Int32)
    · replace hx := ift c2 hx
      refine git c2 ?_
      refine gck M0.g ?_
      obtain ⟨r37, m36, hy, hx⟩ := nb2 hx
      obtain ⟨s36, ey, Ms36, Vs36, Fs36⟩ := mm_X7_num (d := d) M0 hy
      subst Vs36
      replace Fs36 := F0.tr Fs36
      refine gb2 ey ?_
      obtain ⟨rfl, rfl⟩ := lf2 hx
      exact ⟨_, rfl, Ms36, rfl, Fs36⟩
    · replace hx := iff' c2 hx
      refine gif c2 ?_
      by_cases c3 : p2 = (4 : Int32)
      · replace hx := ift c3 hx
        refine git c3 ?_
        refine gck M0.g ?_
        obtain ⟨r33, m32, hy, hx⟩ := nb2 hx
        obtain ⟨s32, ey, Ms32, Vs32, Fs32⟩ := mm_X7_num (d := d) M0 hy
        subst Vs32
        replace Fs32 := F0.tr Fs32
        refine gb2 ey ?_
        obtain ⟨rfl, rfl⟩ := lf2 hx
        exact ⟨_, rfl, Ms32, rfl, Fs32⟩
      · replace hx := iff' c3 hx
        refine gif c3 ?_
        by_cases c4 : (lg_cmp p4 (0 : Int64)) = (0 : Int32)
        · replace hx := ift c4 hx
          refine git c4 ?_
          refine gck M0.g ?_
          obtain ⟨r29, m28, hy, hx⟩ := nb2 hx
          obtain ⟨s28, ey, Ms28, Vs28, Fs28⟩ := mm_X7_fail (d := d) M0 hy
          subst Vs28
          replace Fs28 := F0.tr Fs28
          refine gb2 ey ?_
          obtain ⟨rfl, rfl⟩ := lf2 hx
          exact ⟨_, rfl, Ms28, rfl, Fs28⟩
        · replace hx := iff' c4 hx
          refine gif c4 ?_
          by_cases c5 : (lg_cmp p4 (-1 : Int64)) = (0 : Int32)
          · replace hx := ift c5 hx
            refine git c5 ?_
            by_cases c17 : p2 = (5 : Int32)
            · replace hx := ift c17 hx
              refine git c17 ?_
              refine gck M0.g ?_
              obtain ⟨r25, m24, hy, hx⟩ := nb2 hx
              obtain ⟨s24, ey, Ms24, Vs24, Fs24⟩ := mm_X7_num (d := d) M0 hy
              subst Vs24
              replace Fs24 := F0.tr Fs24
              refine gb2 ey ?_
              obtain ⟨rfl, rfl⟩ := lf2 hx
              exact ⟨_, rfl, Ms24, rfl, Fs24⟩
            · replace hx := iff' c17 hx
              refine gif c17 ?_
              refine gck M0.g ?_
              obtain ⟨r21, m20, hy, hx⟩ := nb2 hx
              obtain ⟨s20, ey, Ms20, Vs20, Fs20⟩ := mm_X7_num (d := d) M0 hy
              subst Vs20
              replace Fs20 := F0.tr Fs20
              refine gb2 ey ?_
              obtain ⟨rfl, rfl⟩ := lf2 hx
              exact ⟨_, rfl, Ms20, rfl, Fs20⟩
          · replace hx := iff' c5 hx
            refine gif c5 ?_
            by_cases c6 : p2 = (5 : Int32)
            · replace hx := ift c6 hx
              refine git c6 ?_
              obtain ⟨g12, hx⟩ := ck hx
              refine gck g12 ?_
              refine gck M0.g ?_
              obtain ⟨r16, m15, hy, hx⟩ := nb2 hx
              obtain ⟨s15, ey, Ms15, Vs15, Fs15⟩ := mm_X7_num (d := d) M0 hy
              subst Vs15
              replace Fs15 := F0.tr Fs15
              refine gb2 ey ?_
              obtain ⟨rfl, rfl⟩ := lf2 hx
              exact ⟨_, rfl, Ms15, rfl, Fs15⟩
            · replace hx := iff' c6 hx
              refine gif c6 ?_
              obtain ⟨g7, hx⟩ := ck hx
              refine gck g7 ?_
              refine gck M0.g ?_
              obtain ⟨r11, m10, hy, hx⟩ := nb2 hx
              obtain ⟨s10, ey, Ms10, Vs10, Fs10⟩ := mm_X7_num (d := d) M0 hy
              subst Vs10
              replace Fs10 := F0.tr Fs10
              refine gb2 ey ?_
              obtain ⟨rfl, rfl⟩ := lf2 hx
              exact ⟨_, rfl, Ms10, rfl, Fs10⟩
def mx_X7_send (μ : Mu) (p1 : Int32) (p2 : Int32) (p3 : Int32) : Option (Int32 × Mu) := (b2 (mx_X7_is μ p1 p2 (4 : Int32)) fun r4 m3 => (if r4 = (0 : Int32) then some ((-1 : Int32), m3) else (b2 (mx_X7_number m3 p1 (1 : Int32)) fun r9 m8 => (if ¬ (p2 < 0 ∨ 50000 ≤ Int32.toNatClampNeg p2) then (if r9 = (0 : Int32) then some (mI m8 5 (Int32.toNatClampNeg p2), m8) else (if r9 = (1 : Int32) then (if ¬ (p2 < 0 ∨ 50000 ≤ Int32.toNatClampNeg p2) then (bm (uI m8 5 (Int32.toNatClampNeg p2) p3) fun m52 => some (mI m8 5 (Int32.toNatClampNeg p2), m52)) else none) else (if r9 = (7 : Int32) then (if (mI m8 5 (Int32.toNatClampNeg p2)) = p3 then (b2 (mx_X7_num m8 (1 : Int64)) fun r50 m49 => some (r50, m49)) else (b2 (mx_X7_num m8 (0 : Int64)) fun r47 m46 => some (r47, m46))) else (if r9 < (2 : Int32) then (b2 (mx_X7_num m8 (0 : Int64)) fun r21 m20 => some (r21, m20)) else (if r9 ≤ (7 : Int32) then (b2 (mx_X7_is m8 p1 (mI m8 5 (Int32.toNatClampNeg p2)) (1 : Int32)) fun r25 m24 => (if r25 = (0 : Int32) then some ((-1 : Int32), m24) else (b2 (mx_X7_is m24 p1 p3 (1 : Int32)) fun r30 m29 => (if r30 = (0 : Int32) then some ((-1 : Int32), m29) else (if ¬ ((mI m8 5 (Int32.toNatClampNeg p2)) < 0 ∨ 50000 ≤ Int32.toNatClampNeg (mI m8 5 (Int32.toNatClampNeg p2))) then (if ¬ (p3 < 0 ∨ 50000 ≤ Int32.toNatClampNeg p3) then (b2 (mx_X7_reckon m29 p1 r9 (mJ m29 7 (Int32.toNatClampNeg (mI m8 5 (Int32.toNatClampNeg p2)))) (mJ m29 7 (Int32.toNatClampNeg p3))) fun r40 m39 => some (r40, m39)) else none) else none))))) else (b2 (mx_X7_num m8 (0 : Int64)) fun r43 m42 => some (r43, m42))))))) else none))))
set_option maxHeartbeats 1000000 in
theorem mm_X7_send {d : Dp} {σ : Sg} {h0 : Nat} {ma : Nat → Nat} {p1 : Int32} {p2 : Int32} {p3 : Int32} {r : Int32} {μ' : Mu} (M0 : MS σ h0 ma) (hx : mx_X7_send (Vw σ h0 ma) p1 p2 p3 = some (r, μ')) : ∃ σ', ex_X7_send d σ h0 p1 p2 p3 = some (r, σ') ∧ MS σ' h0 ma ∧ Vw σ' h0 ma = μ' ∧ Fq σ σ' := by
  have F0 := Fq.rf σ
  unfold mx_X7_send at hx
  unfold ex_X7_send
  refine gck M0.g ?_
  obtain ⟨r4, m3, hy, hx⟩ := nb2 hx
  obtain ⟨s3, ey, Ms3, Vs3, Fs3⟩ := mm_X7_is (d := d) M0 hy
  subst Vs3
  replace Fs3 := F0.tr Fs3
  refine gb2 ey ?_
  by_cases c5 : r4 = (0 : Int32)
  · replace hx := ift c5 hx
    refine git c5 ?_
    obtain ⟨rfl, rfl⟩ := lf2 hx
    exact ⟨_, rfl, Ms3, rfl, Fs3⟩
  · replace hx := iff' c5 hx
    refine gif c5 ?_
    refine gck Ms3.g ?_
    obtain ⟨r9, m8, hy, hx⟩ := nb2 hx
    obtain ⟨s8, ey, Ms8, Vs8, Fs8⟩ := mm_X7_number (d := d) Ms3 hy
    subst Vs8
    replace Fs8 := Fs3.tr Fs8
    refine gb2 ey ?_
    refine gck Ms8.g ?_
    refine gnn (Ms8.p 5 (by decide)) ?_
    refine gck (Ms8.c 5 (by decide)) ?_
    obtain ⟨g14, hx⟩ := ck hx
    refine gck (Ms8.b 5 (by decide) g14) ?_
    by_cases c15 : r9 = (0 : Int32)
    · replace hx := ift c15 hx
      refine git c15 ?_
      obtain ⟨rfl, rfl⟩ := lf2 hx
      exact ⟨_, rfl, Ms8, rfl, Fs8⟩
    · replace hx := iff' c15 hx
      refine gif c15 ?_
      by_cases c16 : r9 = (1 : Int32)
      · replace hx := ift c16 hx
        refine git c16 ?_
        obtain ⟨g51, hx⟩ := ck hx
        refine gck (Ms8.b 5 (by decide) g51) ?_
        obtain ⟨m52, em, hx⟩ := nbm hx
        refine gbn (fun s52 es => ?_)
        obtain ⟨Ms52, Vs52, Fs52⟩ := Ms8.upI (k := 5) (by decide) es em
        subst Vs52
        replace Fs52 := Fs8.tr Fs52
        obtain ⟨rfl, rfl⟩ := lf2 hx
        exact ⟨_, rfl, Ms52, rfl, Fs52⟩
      · replace hx := iff' c16 hx
        refine gif c16 ?_
        by_cases c17 : r9 = (7 : Int32)
        · replace hx := ift c17 hx
          refine git c17 ?_
          by_cases c44 : (ai s8 (ma 5) (Int32.toNatClampNeg p2)) = p3
          · replace hx := ift c44 hx
            refine git c44 ?_
            obtain ⟨r50, m49, hy, hx⟩ := nb2 hx
            obtain ⟨s49, ey, Ms49, Vs49, Fs49⟩ := mm_X7_num (d := d) Ms8 hy
            subst Vs49
            replace Fs49 := Fs8.tr Fs49
            refine gb2 ey ?_
            obtain ⟨rfl, rfl⟩ := lf2 hx
            exact ⟨_, rfl, Ms49, rfl, Fs49⟩
          · replace hx := iff' c44 hx
            refine gif c44 ?_
            obtain ⟨r47, m46, hy, hx⟩ := nb2 hx
            obtain ⟨s46, ey, Ms46, Vs46, Fs46⟩ := mm_X7_num (d := d) Ms8 hy
            subst Vs46
            replace Fs46 := Fs8.tr Fs46
            refine gb2 ey ?_
            obtain ⟨rfl, rfl⟩ := lf2 hx
            exact ⟨_, rfl, Ms46, rfl, Fs46⟩
        · replace hx := iff' c17 hx
          refine gif c17 ?_
          by_cases c18 : r9 < (2 : Int32)
          · replace hx := ift c18 hx
            refine git c18 ?_
            obtain ⟨r21, m20, hy, hx⟩ := nb2 hx
            obtain ⟨s20, ey, Ms20, Vs20, Fs20⟩ := mm_X7_num (d := d) Ms8 hy
            subst Vs20
            replace Fs20 := Fs8.tr Fs20
            refine gb2 ey ?_
            obtain ⟨rfl, rfl⟩ := lf2 hx
            exact ⟨_, rfl, Ms20, rfl, Fs20⟩
          · replace hx := iff' c18 hx
            refine gif c18 ?_
            by_cases c22 : r9 ≤ (7 : Int32)
            · replace hx := ift c22 hx
              refine git c22 ?_
              obtain ⟨r25, m24, hy, hx⟩ := nb2 hx
              obtain ⟨s24, ey, Ms24, Vs24, Fs24⟩ := mm_X7_is (d := d) Ms8 hy
              subst Vs24
              replace Fs24 := Fs8.tr Fs24
              refine gb2 ey ?_
              by_cases c26 : r25 = (0 : Int32)
              · replace hx := ift c26 hx
                refine git c26 ?_
                obtain ⟨rfl, rfl⟩ := lf2 hx
                exact ⟨_, rfl, Ms24, rfl, Fs24⟩
              · replace hx := iff' c26 hx
                refine gif c26 ?_
                refine gck Ms24.g ?_
                obtain ⟨r30, m29, hy, hx⟩ := nb2 hx
                obtain ⟨s29, ey, Ms29, Vs29, Fs29⟩ := mm_X7_is (d := d) Ms24 hy
                subst Vs29
                replace Fs29 := Fs24.tr Fs29
                refine gb2 ey ?_
                by_cases c31 : r30 = (0 : Int32)
                · replace hx := ift c31 hx
                  refine git c31 ?_
                  obtain ⟨rfl, rfl⟩ := lf2 hx
                  exact ⟨_, rfl, Ms29, rfl, Fs29⟩
                · replace hx := iff' c31 hx
                  refine gif c31 ?_
                  refine gck Ms29.g ?_
                  refine gnn (Ms29.p 7 (by decide)) ?_
                  refine gck (Ms29.c 7 (by decide)) ?_
                  obtain ⟨g36, hx⟩ := ck hx
                  refine gck (Ms29.b 7 (by decide) g36) ?_
                  obtain ⟨g37, hx⟩ := ck hx
                  refine gck (Ms29.b 7 (by decide) g37) ?_
                  obtain ⟨r40, m39, hy, hx⟩ := nb2 hx
                  obtain ⟨s39, ey, Ms39, Vs39, Fs39⟩ := mm_X7_reckon (d := d) Ms29 hy
                  subst Vs39
                  replace Fs39 := Fs29.tr Fs39
                  refine gb2 ey ?_
                  obtain ⟨rfl, rfl⟩ := lf2 hx
                  exact ⟨_, rfl, Ms39, rfl, Fs39⟩
            · replace hx := iff' c22 hx
              refine gif c22 ?_
              obtain ⟨r43, m42, hy, hx⟩ := nb2 hx
              obtain ⟨s42, ey, Ms42, Vs42, Fs42⟩ := mm_X7_num (d := d) Ms8 hy
              subst Vs42
              replace Fs42 := Fs8.tr Fs42
              refine gb2 ey ?_
              obtain ⟨rfl, rfl⟩ := lf2 hx
              exact ⟨_, rfl, Ms42, rfl, Fs42⟩
def lq_X7_newRow : Nat → Mu → Int32 → Int32 → Int32 → Int32 → Int32 → Option (Int32 × Mu)
  | 0, _, _, _, _, _, _ => none
  | f + 1, μ, v1, v2, v3, v4, v5 => (if v2 ≤ v5 then (bm (uS μ 811 ((mS μ 811) + v2)) fun m19 => some (v4, m19)) else (if ¬ (((mS μ 811) + v5) < 0 ∨ 20000 ≤ Int32.toNatClampNeg ((mS μ 811) + v5)) then (bm (uI μ 8 (Int32.toNatClampNeg ((mS μ 811) + v5)) (-1 : Int32)) fun m26 => lq_X7_newRow f m26 v1 v2 v3 v4 (v5 + 1)) else none))
set_option maxHeartbeats 1000000 in
theorem mml_X7_newRow {d : Dp} {h0 : Nat} {ma : Nat → Nat} {r : Int32} {μ' : Mu} : ∀ (f : Nat) (σ : Sg) (v1 : Int32) (v2 : Int32) (v3 : Int32) (v4 : Int32) (v5 : Int32), MS σ h0 ma → lq_X7_newRow f (Vw σ h0 ma) v1 v2 v3 v4 v5 = some (r, μ') → ∃ σ', lp_X7_newRow f d σ h0 v1 v2 v3 v4 v5 = some (r, σ') ∧ MS σ' h0 ma ∧ Vw σ' h0 ma = μ' ∧ Fq σ σ' := by
  intro f
  induction f with
  | zero => intro σ v1 v2 v3 v4 v5 M0 hx; cases hx
  | succ f ih =>
    intro σ v1 v2 v3 v4 v5 M0 hx
    have F0 := Fq.rf σ
    unfold lq_X7_newRow at hx
    unfold lp_X7_newRow
    by_cases c17 : v2 ≤ v5
    · replace hx := ift c17 hx
      refine git c17 ?_
      refine gck M0.g ?_
      obtain ⟨m19, em, hx⟩ := nbm hx
      refine gbn (fun s19 es => ?_)
      obtain ⟨Ms19, Vs19, Fs19⟩ := M0.upS (by decide) es em
      subst Vs19
      replace Fs19 := F0.tr Fs19
      obtain ⟨rfl, rfl⟩ := lf2 hx
      exact ⟨_, rfl, Ms19, rfl, Fs19⟩
    · replace hx := iff' c17 hx
      refine gif c17 ?_
      refine gck M0.g ?_
      refine gnn (M0.p 8 (by decide)) ?_
      refine gck (M0.c 8 (by decide)) ?_
      obtain ⟨g25, hx⟩ := ck hx
      refine gck (M0.b 8 (by decide) g25) ?_
      obtain ⟨m26, em, hx⟩ := nbm hx
      refine gbn (fun s26 es => ?_)
      obtain ⟨Ms26, Vs26, Fs26⟩ := M0.upI (k := 8) (by decide) es em
      subst Vs26
      replace Fs26 := F0.tr Fs26
      obtain ⟨sz, ey, Mz, Vz, Fz⟩ := ih _ _ _ _ _ _ Ms26 hx
      exact ⟨sz, ey, Mz, Vz, Fs26.tr Fz⟩
def mx_X7_newRow (μ : Mu) (p1 : Int32) (p2 : Int32) : Option (Int32 × Mu) := (b2 (mx_X7_number μ p1 (0 : Int32)) fun r4 m3 => (if r4 < (0 : Int32) then (b2 (mx_X7_make m3 (5 : Int32) (0 : Int64) (-1 : Int32) (-1 : Int32)) fun r9 m8 => some (r9, m8)) else (if r4 ≤ (2 : Int32) then (if (0 : Int32) ≤ p2 then (if p2 ≤ ((20000 : Int32) - (mS m3 811)) then (b2 (mx_X7_make m3 (5 : Int32) (Int32.toInt64 (mS m3 811)) p2 r4) fun r16 m15 => lq_X7_newRow 20010 m15 p1 p2 r4 r16 (0 : Int32)) else (b2 (mx_X7_fail m3 (8 : Int32) p1) fun r30 m29 => some (r30, m29))) else (b2 (mx_X7_fail m3 (5 : Int32) p1) fun r34 m33 => some (r34, m33))) else (b2 (mx_X7_make m3 (5 : Int32) (0 : Int64) (-1 : Int32) (-1 : Int32)) fun r38 m37 => some (r38, m37)))))
set_option maxHeartbeats 1000000 in
theorem mm_X7_newRow {d : Dp} {σ : Sg} {h0 : Nat} {ma : Nat → Nat} {p1 : Int32} {p2 : Int32} {r : Int32} {μ' : Mu} (M0 : MS σ h0 ma) (hx : mx_X7_newRow (Vw σ h0 ma) p1 p2 = some (r, μ')) : ∃ σ', ex_X7_newRow d σ h0 p1 p2 = some (r, σ') ∧ MS σ' h0 ma ∧ Vw σ' h0 ma = μ' ∧ Fq σ σ' := by
  have F0 := Fq.rf σ
  unfold mx_X7_newRow at hx
  unfold ex_X7_newRow
  refine gck M0.g ?_
  obtain ⟨r4, m3, hy, hx⟩ := nb2 hx
  obtain ⟨s3, ey, Ms3, Vs3, Fs3⟩ := mm_X7_number (d := d) M0 hy
  subst Vs3
  replace Fs3 := F0.tr Fs3
  refine gb2 ey ?_
  by_cases c5 : r4 < (0 : Int32)
  · replace hx := ift c5 hx
    refine git c5 ?_
    refine gck Ms3.g ?_
    obtain ⟨r9, m8, hy, hx⟩ := nb2 hx
    obtain ⟨s8, ey, Ms8, Vs8, Fs8⟩ := mm_X7_make (d := d) Ms3 hy
    subst Vs8
    replace Fs8 := Fs3.tr Fs8
    refine gb2 ey ?_
    obtain ⟨rfl, rfl⟩ := lf2 hx
    exact ⟨_, rfl, Ms8, rfl, Fs8⟩
  · replace hx := iff' c5 hx
    refine gif c5 ?_
    by_cases c10 : r4 ≤ (2 : Int32)
    · replace hx := ift c10 hx
      refine git c10 ?_
      by_cases c11 : (0 : Int32) ≤ p2
      · replace hx := ift c11 hx
        refine git c11 ?_
        refine gck Ms3.g ?_
        by_cases c13 : p2 ≤ ((20000 : Int32) - (gi s3 811 h0))
        · replace hx := ift c13 hx
          refine git c13 ?_
          obtain ⟨r16, m15, hy, hx⟩ := nb2 hx
          obtain ⟨s15, ey, Ms15, Vs15, Fs15⟩ := mm_X7_make (d := d) Ms3 hy
          subst Vs15
          replace Fs15 := Fs3.tr Fs15
          refine gb2 ey ?_
          obtain ⟨sz, ey, Mz, Vz, Fz⟩ := mml_X7_newRow (d := d) _ _ _ _ _ _ _ Ms15 hx
          exact ⟨sz, ey, Mz, Vz, Fs15.tr Fz⟩
        · replace hx := iff' c13 hx
          refine gif c13 ?_
          obtain ⟨r30, m29, hy, hx⟩ := nb2 hx
          obtain ⟨s29, ey, Ms29, Vs29, Fs29⟩ := mm_X7_fail (d := d) Ms3 hy
          subst Vs29
          replace Fs29 := Fs3.tr Fs29
          refine gb2 ey ?_
          obtain ⟨rfl, rfl⟩ := lf2 hx
          exact ⟨_, rfl, Ms29, rfl, Fs29⟩
      · replace hx := iff' c11 hx
        refine gif c11 ?_
        refine gck Ms3.g ?_
        obtain ⟨r34, m33, hy, hx⟩ := nb2 hx
        obtain ⟨s33, ey, Ms33, Vs33, Fs33⟩ := mm_X7_fail (d := d) Ms3 hy
        subst Vs33
        replace Fs33 := Fs3.tr Fs33
        refine gb2 ey ?_
        obtain ⟨rfl, rfl⟩ := lf2 hx
        exact ⟨_, rfl, Ms33, rfl, Fs33⟩
    · replace hx := iff' c10 hx
      refine gif c10 ?_
      refine gck Ms3.g ?_
      obtain ⟨r38, m37, hy, hx⟩ := nb2 hx
      obtain ⟨s37, ey, Ms37, Vs37, Fs37⟩ := mm_X7_make (d := d) Ms3 hy
      subst Vs37
      replace Fs37 := Fs3.tr Fs37
      refine gb2 ey ?_
      obtain ⟨rfl, rfl⟩ := lf2 hx
      exact ⟨_, rfl, Ms37, rfl, Fs37⟩
