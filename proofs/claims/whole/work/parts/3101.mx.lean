def lq_X7_enter : Nat → Mu → Int32 → Int32 → Option (Unit × Mu)
  | 0, _, _, _ => none
  | f + 1, μ, v1, v2 => (if (3 : Int32) ≤ v2 then some ((), μ) else (if ¬ (((((3 : Int32) * (mS μ 818)) - (3 : Int32)) + v2) < 0 ∨ 603 ≤ Int32.toNatClampNeg ((((3 : Int32) * (mS μ 818)) - (3 : Int32)) + v2)) then (bm (uI μ 12 (Int32.toNatClampNeg ((((3 : Int32) * (mS μ 818)) - (3 : Int32)) + v2)) (-1 : Int32)) fun m32 => lq_X7_enter f m32 v1 (v2 + 1)) else none))
set_option maxHeartbeats 1000000 in
theorem mml_X7_enter {d : Dp} {h0 : Nat} {ma : Nat → Nat} {r : Unit} {μ' : Mu} : ∀ (f : Nat) (σ : Sg) (v1 : Int32) (v2 : Int32), MS σ h0 ma → lq_X7_enter f (Vw σ h0 ma) v1 v2 = some (r, μ') → ∃ σ', lp_X7_enter f d σ h0 v1 v2 = some (r, σ') ∧ MS σ' h0 ma ∧ Vw σ' h0 ma = μ' ∧ Fq σ σ' := by
  intro f
  induction f with
  | zero => intro σ v1 v2 M0 hx; cases hx
  | succ f ih =>
    intro σ v1 v2 M0 hx
    have F0 := Fq.rf σ
    unfold lq_X7_enter at hx
    unfold lp_X7_enter
    by_cases c26 : (3 : Int32) ≤ v2
    · replace hx := ift c26 hx
      refine git c26 ?_
      obtain ⟨rfl, rfl⟩ := lf2 hx
      exact ⟨_, rfl, M0, rfl, F0⟩
    · replace hx := iff' c26 hx
      refine gif c26 ?_
      refine gck M0.g ?_
      refine gnn (M0.p 12 (by decide)) ?_
      refine gck (M0.c 12 (by decide)) ?_
      obtain ⟨g31, hx⟩ := ck hx
      refine gck (M0.b 12 (by decide) g31) ?_
      obtain ⟨m32, em, hx⟩ := nbm hx
      refine gbn (fun s32 es => ?_)
      obtain ⟨Ms32, Vs32, Fs32⟩ := M0.upI (k := 12) (by decide) es em
      subst Vs32
      replace Fs32 := F0.tr Fs32
      obtain ⟨sz, ey, Mz, Vz, Fz⟩ := ih _ _ _ Ms32 hx
      exact ⟨sz, ey, Mz, Vz, Fs32.tr Fz⟩
def mx_X7_enter (μ : Mu) (p1 : Int32) : Option (Unit × Mu) := (if (mS μ 822) = (0 : Int32) then (bm (uS μ 820 (-1 : Int32)) fun m37 => some ((), m37)) else (bm (uS μ 822 ((mS μ 822) - (1 : Int32))) fun m3 => (bm (uS m3 823 ((mS m3 823) + (1 : Int32))) fun m6 => (if (mS m6 818) = (200 : Int32) then (b2 (mx_X7_fail m6 (7 : Int32) p1) fun r36 m35 => some ((), m35)) else (bm (uS m6 818 ((mS m6 818) + (1 : Int32))) fun m10 => (if ¬ ((mS m10 818) < 0 ∨ 201 ≤ Int32.toNatClampNeg (mS m10 818)) then (bm (uI m10 10 (Int32.toNatClampNeg (mS m10 818)) p1) fun m17 => (if ¬ ((mS m17 818) < 0 ∨ 201 ≤ Int32.toNatClampNeg (mS m17 818)) then (bm (uI m17 11 (Int32.toNatClampNeg (mS m17 818)) (0 : Int32)) fun m24 => lq_X7_enter 300 m24 p1 (0 : Int32)) else none)) else none))))))
set_option maxHeartbeats 1000000 in
theorem mm_X7_enter {d : Dp} {σ : Sg} {h0 : Nat} {ma : Nat → Nat} {p1 : Int32} {r : Unit} {μ' : Mu} (M0 : MS σ h0 ma) (hx : mx_X7_enter (Vw σ h0 ma) p1 = some (r, μ')) : ∃ σ', ex_X7_enter d σ h0 p1 = some (r, σ') ∧ MS σ' h0 ma ∧ Vw σ' h0 ma = μ' ∧ Fq σ σ' := by
  have F0 := Fq.rf σ
  unfold mx_X7_enter at hx
  unfold ex_X7_enter
  refine gck M0.g ?_
  by_cases c2 : (gi σ 822 h0) = (0 : Int32)
  · replace hx := ift c2 hx
    refine git c2 ?_
    obtain ⟨m37, em, hx⟩ := nbm hx
    refine gbn (fun s37 es => ?_)
    obtain ⟨Ms37, Vs37, Fs37⟩ := M0.upS (by decide) es em
    subst Vs37
    replace Fs37 := F0.tr Fs37
    obtain ⟨rfl, rfl⟩ := lf2 hx
    exact ⟨_, rfl, Ms37, rfl, Fs37⟩
  · replace hx := iff' c2 hx
    refine gif c2 ?_
    obtain ⟨m3, em, hx⟩ := nbm hx
    refine gbn (fun s3 es => ?_)
    obtain ⟨Ms3, Vs3, Fs3⟩ := M0.upS (by decide) es em
    subst Vs3
    replace Fs3 := F0.tr Fs3
    refine gck Ms3.g ?_
    obtain ⟨m6, em, hx⟩ := nbm hx
    refine gbn (fun s6 es => ?_)
    obtain ⟨Ms6, Vs6, Fs6⟩ := Ms3.upS (by decide) es em
    subst Vs6
    replace Fs6 := Fs3.tr Fs6
    refine gck Ms6.g ?_
    by_cases c9 : (gi s6 818 h0) = (200 : Int32)
    · replace hx := ift c9 hx
      refine git c9 ?_
      obtain ⟨r36, m35, hy, hx⟩ := nb2 hx
      obtain ⟨s35, ey, Ms35, Vs35, Fs35⟩ := mm_X7_fail (d := d) Ms6 hy
      subst Vs35
      replace Fs35 := Fs6.tr Fs35
      refine gb2 ey ?_
      obtain ⟨rfl, rfl⟩ := lf2 hx
      exact ⟨_, rfl, Ms35, rfl, Fs35⟩
    · replace hx := iff' c9 hx
      refine gif c9 ?_
      obtain ⟨m10, em, hx⟩ := nbm hx
      refine gbn (fun s10 es => ?_)
      obtain ⟨Ms10, Vs10, Fs10⟩ := Ms6.upS (by decide) es em
      subst Vs10
      replace Fs10 := Fs6.tr Fs10
      refine gck Ms10.g ?_
      refine gnn (Ms10.p 10 (by decide)) ?_
      refine gck (Ms10.c 10 (by decide)) ?_
      obtain ⟨g16, hx⟩ := ck hx
      refine gck (Ms10.b 10 (by decide) g16) ?_
      obtain ⟨m17, em, hx⟩ := nbm hx
      refine gbn (fun s17 es => ?_)
      obtain ⟨Ms17, Vs17, Fs17⟩ := Ms10.upI (k := 10) (by decide) es em
      subst Vs17
      replace Fs17 := Fs10.tr Fs17
      refine gck Ms17.g ?_
      refine gnn (Ms17.p 11 (by decide)) ?_
      refine gck (Ms17.c 11 (by decide)) ?_
      obtain ⟨g23, hx⟩ := ck hx
      refine gck (Ms17.b 11 (by decide) g23) ?_
      obtain ⟨m24, em, hx⟩ := nbm hx
      refine gbn (fun s24 es => ?_)
      obtain ⟨Ms24, Vs24, Fs24⟩ := Ms17.upI (k := 11) (by decide) es em
      subst Vs24
      replace Fs24 := Fs17.tr Fs24
      obtain ⟨sz, ey, Mz, Vz, Fz⟩ := mml_X7_enter (d := d) _ _ _ _ Ms24 hx
      exact ⟨sz, ey, Mz, Vz, Fs24.tr Fz⟩
def mx_X7_begin (μ : Mu) (p1 : Int32) (p2 : Int32) : Option (Unit × Mu) := (b2 (mx_X7_number μ p1 p2) fun r4 m3 => (if r4 = (-1 : Int32) then (b2 (mx_X7_fail m3 (1 : Int32) p1) fun r17 m16 => some ((), m16)) else (b2 (mx_X7_number m3 p1 p2) fun r9 m8 => (b2 (mx_X7_enter m8 r9) fun r13 m12 => some ((), m12)))))
set_option maxHeartbeats 1000000 in
theorem mm_X7_begin {d : Dp} {σ : Sg} {h0 : Nat} {ma : Nat → Nat} {p1 : Int32} {p2 : Int32} {r : Unit} {μ' : Mu} (M0 : MS σ h0 ma) (hx : mx_X7_begin (Vw σ h0 ma) p1 p2 = some (r, μ')) : ∃ σ', ex_X7_begin d σ h0 p1 p2 = some (r, σ') ∧ MS σ' h0 ma ∧ Vw σ' h0 ma = μ' ∧ Fq σ σ' := by
  have F0 := Fq.rf σ
  unfold mx_X7_begin at hx
  unfold ex_X7_begin
  refine gck M0.g ?_
  obtain ⟨r4, m3, hy, hx⟩ := nb2 hx
  obtain ⟨s3, ey, Ms3, Vs3, Fs3⟩ := mm_X7_number (d := d) M0 hy
  subst Vs3
  replace Fs3 := F0.tr Fs3
  refine gb2 ey ?_
  by_cases c5 : r4 = (-1 : Int32)
  · replace hx := ift c5 hx
    refine git c5 ?_
    refine gck Ms3.g ?_
    obtain ⟨r17, m16, hy, hx⟩ := nb2 hx
    obtain ⟨s16, ey, Ms16, Vs16, Fs16⟩ := mm_X7_fail (d := d) Ms3 hy
    subst Vs16
    replace Fs16 := Fs3.tr Fs16
    refine gb2 ey ?_
    obtain ⟨rfl, rfl⟩ := lf2 hx
    exact ⟨_, rfl, Ms16, rfl, Fs16⟩
  · replace hx := iff' c5 hx
    refine gif c5 ?_
    refine gck Ms3.g ?_
    obtain ⟨r9, m8, hy, hx⟩ := nb2 hx
    obtain ⟨s8, ey, Ms8, Vs8, Fs8⟩ := mm_X7_number (d := d) Ms3 hy
    subst Vs8
    replace Fs8 := Fs3.tr Fs8
    refine gb2 ey ?_
    refine gck Ms8.g ?_
    obtain ⟨r13, m12, hy, hx⟩ := nb2 hx
    obtain ⟨s12, ey, Ms12, Vs12, Fs12⟩ := mm_X7_enter (d := d) Ms8 hy
    subst Vs12
    replace Fs12 := Fs8.tr Fs12
    refine gb2 ey ?_
    obtain ⟨rfl, rfl⟩ := lf2 hx
    exact ⟨_, rfl, Ms12, rfl, Fs12⟩
def mx_X7_outward (μ : Mu) (p1 : Int32) : Option (Unit × Mu) := (if ¬ (p1 < 0 ∨ 4000 ≤ Int32.toNatClampNeg p1) then (if (mI μ 1 (Int32.toNatClampNeg p1)) = (15 : Int32) then (if ¬ ((mS μ 818) < 0 ∨ 201 ≤ Int32.toNatClampNeg (mS μ 818)) then (if (mI μ 11 (Int32.toNatClampNeg (mS μ 818))) = (1 : Int32) then (b2 (mx_X7_number μ p1 (1 : Int32)) fun r18 m17 => (if r18 = (0 : Int32) then (b2 (mx_X7_num m17 (Int32.toInt64 (mS m17 820))) fun r23 m22 => (if ¬ ((0 : Int32) < 0 ∨ 256 ≤ Int32.toNatClampNeg (0 : Int32)) then (bm (uI m22 9 (Int32.toNatClampNeg (0 : Int32)) r23) fun m28 => (bm (uS m28 820 (0 : Int32)) fun m31 => (if ¬ ((mS m31 818) < 0 ∨ 201 ≤ Int32.toNatClampNeg (mS m31 818)) then (bm (uI m31 11 (Int32.toNatClampNeg (mS m31 818)) (2 : Int32)) fun m38 => (b2 (mx_X7_begin m38 p1 (2 : Int32)) fun r43 m42 => some ((), m42))) else none))) else none)) else (b2 (mx_X7_number m17 p1 (1 : Int32)) fun r47 m46 => (if r47 = (mS m46 820) then (b2 (mx_X7_num m46 (Int32.toInt64 (mS m46 820))) fun r52 m51 => (if ¬ ((0 : Int32) < 0 ∨ 256 ≤ Int32.toNatClampNeg (0 : Int32)) then (bm (uI m51 9 (Int32.toNatClampNeg (0 : Int32)) r52) fun m57 => (bm (uS m57 820 (0 : Int32)) fun m60 => (if ¬ ((mS m60 818) < 0 ∨ 201 ≤ Int32.toNatClampNeg (mS m60 818)) then (bm (uI m60 11 (Int32.toNatClampNeg (mS m60 818)) (2 : Int32)) fun m67 => (b2 (mx_X7_begin m67 p1 (2 : Int32)) fun r72 m71 => some ((), m71))) else none))) else none)) else (bm (uS m46 818 ((mS m46 818) - (1 : Int32))) fun m73 => some ((), m73)))))) else (bm (uS μ 818 ((mS μ 818) - (1 : Int32))) fun m14 => some ((), m14))) else none) else (bm (uS μ 818 ((mS μ 818) - (1 : Int32))) fun m7 => some ((), m7))) else none)
set_option maxHeartbeats 1000000 in
theorem mm_X7_outward {d : Dp} {σ : Sg} {h0 : Nat} {ma : Nat → Nat} {p1 : Int32} {r : Unit} {μ' : Mu} (M0 : MS σ h0 ma) (hx : mx_X7_outward (Vw σ h0 ma) p1 = some (r, μ')) : ∃ σ', ex_X7_outward d σ h0 p1 = some (r, σ') ∧ MS σ' h0 ma ∧ Vw σ' h0 ma = μ' ∧ Fq σ σ' := by
  have F0 := Fq.rf σ
  unfold mx_X7_outward at hx
  unfold ex_X7_outward
  refine gck M0.g ?_
  refine gnn (M0.p 1 (by decide)) ?_
  refine gck (M0.c 1 (by decide)) ?_
  obtain ⟨g5, hx⟩ := ck hx
  refine gck (M0.b 1 (by decide) g5) ?_
  by_cases c6 : (ai σ (ma 1) (Int32.toNatClampNeg p1)) = (15 : Int32)
  · replace hx := ift c6 hx
    refine git c6 ?_
    refine gnn (M0.p 11 (by decide)) ?_
    refine gck (M0.c 11 (by decide)) ?_
    obtain ⟨g12, hx⟩ := ck hx
    refine gck (M0.b 11 (by decide) g12) ?_
    by_cases c13 : (ai σ (ma 11) (Int32.toNatClampNeg (gi σ 818 h0))) = (1 : Int32)
    · replace hx := ift c13 hx
      refine git c13 ?_
      obtain ⟨r18, m17, hy, hx⟩ := nb2 hx
      obtain ⟨s17, ey, Ms17, Vs17, Fs17⟩ := mm_X7_number (d := d) M0 hy
      subst Vs17
      replace Fs17 := F0.tr Fs17
      refine gb2 ey ?_
      by_cases c19 : r18 = (0 : Int32)
      · replace hx := ift c19 hx
        refine git c19 ?_
        refine gck Ms17.g ?_
        obtain ⟨r23, m22, hy, hx⟩ := nb2 hx
        obtain ⟨s22, ey, Ms22, Vs22, Fs22⟩ := mm_X7_num (d := d) Ms17 hy
        subst Vs22
        replace Fs22 := Fs17.tr Fs22
        refine gb2 ey ?_
        refine gnn (Ms17.p 9 (by decide)) ?_
        refine gck (Ms22.c 9 (by decide)) ?_
        obtain ⟨g27, hx⟩ := ck hx
        refine gck (Ms22.b 9 (by decide) g27) ?_
        obtain ⟨m28, em, hx⟩ := nbm hx
        refine gbn (fun s28 es => ?_)
        obtain ⟨Ms28, Vs28, Fs28⟩ := Ms22.upI (k := 9) (by decide) es em
        subst Vs28
        replace Fs28 := Fs22.tr Fs28
        refine gck Ms28.g ?_
        obtain ⟨m31, em, hx⟩ := nbm hx
        refine gbn (fun s31 es => ?_)
        obtain ⟨Ms31, Vs31, Fs31⟩ := Ms28.upS (by decide) es em
        subst Vs31
        replace Fs31 := Fs28.tr Fs31
        refine gck Ms31.g ?_
        refine gnn (Ms31.p 11 (by decide)) ?_
        refine gck (Ms31.c 11 (by decide)) ?_
        obtain ⟨g37, hx⟩ := ck hx
        refine gck (Ms31.b 11 (by decide) g37) ?_
        obtain ⟨m38, em, hx⟩ := nbm hx
        refine gbn (fun s38 es => ?_)
        obtain ⟨Ms38, Vs38, Fs38⟩ := Ms31.upI (k := 11) (by decide) es em
        subst Vs38
        replace Fs38 := Fs31.tr Fs38
        refine gck Ms38.g ?_
        obtain ⟨r43, m42, hy, hx⟩ := nb2 hx
        obtain ⟨s42, ey, Ms42, Vs42, Fs42⟩ := mm_X7_begin (d := d) Ms38 hy
        subst Vs42
        replace Fs42 := Fs38.tr Fs42
        refine gb2 ey ?_
        obtain ⟨rfl, rfl⟩ := lf2 hx
        exact ⟨_, rfl, Ms42, rfl, Fs42⟩
      · replace hx := iff' c19 hx
        refine gif c19 ?_
        refine gck Ms17.g ?_
        obtain ⟨r47, m46, hy, hx⟩ := nb2 hx
        obtain ⟨s46, ey, Ms46, Vs46, Fs46⟩ := mm_X7_number (d := d) Ms17 hy
        subst Vs46
        replace Fs46 := Fs17.tr Fs46
        refine gb2 ey ?_
        refine gck Ms46.g ?_
        by_cases c49 : r47 = (gi s46 820 h0)
        · replace hx := ift c49 hx
          refine git c49 ?_
          obtain ⟨r52, m51, hy, hx⟩ := nb2 hx
          obtain ⟨s51, ey, Ms51, Vs51, Fs51⟩ := mm_X7_num (d := d) Ms46 hy
          subst Vs51
          replace Fs51 := Fs46.tr Fs51
          refine gb2 ey ?_
          refine gnn (Ms46.p 9 (by decide)) ?_
          refine gck (Ms51.c 9 (by decide)) ?_
          obtain ⟨g56, hx⟩ := ck hx
          refine gck (Ms51.b 9 (by decide) g56) ?_
          obtain ⟨m57, em, hx⟩ := nbm hx
          refine gbn (fun s57 es => ?_)
          obtain ⟨Ms57, Vs57, Fs57⟩ := Ms51.upI (k := 9) (by decide) es em
          subst Vs57
          replace Fs57 := Fs51.tr Fs57
          refine gck Ms57.g ?_
          obtain ⟨m60, em, hx⟩ := nbm hx
          refine gbn (fun s60 es => ?_)
          obtain ⟨Ms60, Vs60, Fs60⟩ := Ms57.upS (by decide) es em
          subst Vs60
          replace Fs60 := Fs57.tr Fs60
          refine gck Ms60.g ?_
          refine gnn (Ms60.p 11 (by decide)) ?_
          refine gck (Ms60.c 11 (by decide)) ?_
          obtain ⟨g66, hx⟩ := ck hx
          refine gck (Ms60.b 11 (by decide) g66) ?_
          obtain ⟨m67, em, hx⟩ := nbm hx
          refine gbn (fun s67 es => ?_)
          obtain ⟨Ms67, Vs67, Fs67⟩ := Ms60.upI (k := 11) (by decide) es em
          subst Vs67
          replace Fs67 := Fs60.tr Fs67
          refine gck Ms67.g ?_
          obtain ⟨r72, m71, hy, hx⟩ := nb2 hx
          obtain ⟨s71, ey, Ms71, Vs71, Fs71⟩ := mm_X7_begin (d := d) Ms67 hy
          subst Vs71
          replace Fs71 := Fs67.tr Fs71
          refine gb2 ey ?_
          obtain ⟨rfl, rfl⟩ := lf2 hx
          exact ⟨_, rfl, Ms71, rfl, Fs71⟩
        · replace hx := iff' c49 hx
          refine gif c49 ?_
          obtain ⟨m73, em, hx⟩ := nbm hx
          refine gbn (fun s73 es => ?_)
          obtain ⟨Ms73, Vs73, Fs73⟩ := Ms46.upS (by decide) es em
          subst Vs73
          replace Fs73 := Fs46.tr Fs73
          obtain ⟨rfl, rfl⟩ := lf2 hx
          exact ⟨_, rfl, Ms73, rfl, Fs73⟩
    · replace hx := iff' c13 hx
      refine gif c13 ?_
      obtain ⟨m14, em, hx⟩ := nbm hx
      refine gbn (fun s14 es => ?_)
      obtain ⟨Ms14, Vs14, Fs14⟩ := M0.upS (by decide) es em
      subst Vs14
      replace Fs14 := F0.tr Fs14
      obtain ⟨rfl, rfl⟩ := lf2 hx
      exact ⟨_, rfl, Ms14, rfl, Fs14⟩
  · replace hx := iff' c6 hx
    refine gif c6 ?_
    obtain ⟨m7, em, hx⟩ := nbm hx
    refine gbn (fun s7 es => ?_)
    obtain ⟨Ms7, Vs7, Fs7⟩ := M0.upS (by decide) es em
    subst Vs7
    replace Fs7 := F0.tr Fs7
    obtain ⟨rfl, rfl⟩ := lf2 hx
    exact ⟨_, rfl, Ms7, rfl, Fs7⟩
def mx_X7_part0 (μ : Mu) (p1 : Int32) : Option (Unit × Mu) := (if ¬ ((mS μ 818) < 0 ∨ 201 ≤ Int32.toNatClampNeg (mS μ 818)) then (bm (uI μ 11 (Int32.toNatClampNeg (mS μ 818)) (1 : Int32)) fun m6 => (b2 (mx_X7_begin m6 p1 (0 : Int32)) fun r11 m10 => some ((), m10))) else none)
set_option maxHeartbeats 1000000 in
theorem mm_X7_part0 {d : Dp} {σ : Sg} {h0 : Nat} {ma : Nat → Nat} {p1 : Int32} {r : Unit} {μ' : Mu} (M0 : MS σ h0 ma) (hx : mx_X7_part0 (Vw σ h0 ma) p1 = some (r, μ')) : ∃ σ', ex_X7_part0 d σ h0 p1 = some (r, σ') ∧ MS σ' h0 ma ∧ Vw σ' h0 ma = μ' ∧ Fq σ σ' := by
  have F0 := Fq.rf σ
  unfold mx_X7_part0 at hx
  unfold ex_X7_part0
  refine gck M0.g ?_
  refine gnn (M0.p 11 (by decide)) ?_
  refine gck (M0.c 11 (by decide)) ?_
  obtain ⟨g5, hx⟩ := ck hx
  refine gck (M0.b 11 (by decide) g5) ?_
  obtain ⟨m6, em, hx⟩ := nbm hx
  refine gbn (fun s6 es => ?_)
  obtain ⟨Ms6, Vs6, Fs6⟩ := M0.upI (k := 11) (by decide) es em
  subst Vs6
  replace Fs6 := F0.tr Fs6
  refine gck Ms6.g ?_
  obtain ⟨r11, m10, hy, hx⟩ := nb2 hx
  obtain ⟨s10, ey, Ms10, Vs10, Fs10⟩ := mm_X7_begin (d := d) Ms6 hy
  subst Vs10
  replace Fs10 := Fs6.tr Fs10
  refine gb2 ey ?_
  obtain ⟨rfl, rfl⟩ := lf2 hx
  exact ⟨_, rfl, Ms10, rfl, Fs10⟩
def mx_X7_choose (μ : Mu) (p1 : Int32) : Option (Unit × Mu) := (if ¬ ((mS μ 818) < 0 ∨ 201 ≤ Int32.toNatClampNeg (mS μ 818)) then (if (mI μ 11 (Int32.toNatClampNeg (mS μ 818))) = (0 : Int32) then (b2 (mx_X7_part0 μ p1) fun r36 m35 => some ((), m35)) else (if ¬ ((mS μ 818) < 0 ∨ 201 ≤ Int32.toNatClampNeg (mS μ 818)) then (if (mI μ 11 (Int32.toNatClampNeg (mS μ 818))) = (2 : Int32) then (bm (uS μ 818 ((mS μ 818) - (1 : Int32))) fun m32 => some ((), m32)) else (b2 (mx_X7_is μ p1 (mS μ 819) (1 : Int32)) fun r11 m10 => (if r11 = (0 : Int32) then some ((), m10) else (if ¬ ((mS m10 818) < 0 ∨ 201 ≤ Int32.toNatClampNeg (mS m10 818)) then (bm (uI m10 11 (Int32.toNatClampNeg (mS m10 818)) (2 : Int32)) fun m18 => (if ¬ ((mS m18 819) < 0 ∨ 50000 ≤ Int32.toNatClampNeg (mS m18 819)) then (if (lg_cmp (mJ m18 7 (Int32.toNatClampNeg (mS m18 819))) (0 : Int64)) = (0 : Int32) then (b2 (mx_X7_begin m18 p1 (2 : Int32)) fun r28 m27 => some ((), m27)) else (b2 (mx_X7_begin m18 p1 (1 : Int32)) fun r31 m30 => some ((), m30))) else none)) else none)))) else none)) else none)
set_option maxHeartbeats 1000000 in
theorem mm_X7_choose {d : Dp} {σ : Sg} {h0 : Nat} {ma : Nat → Nat} {p1 : Int32} {r : Unit} {μ' : Mu} (M0 : MS σ h0 ma) (hx : mx_X7_choose (Vw σ h0 ma) p1 = some (r, μ')) : ∃ σ', ex_X7_choose d σ h0 p1 = some (r, σ') ∧ MS σ' h0 ma ∧ Vw σ' h0 ma = μ' ∧ Fq σ σ' := by
  have F0 := Fq.rf σ
  unfold mx_X7_choose at hx
  unfold ex_X7_choose
  refine gck M0.g ?_
  refine gnn (M0.p 11 (by decide)) ?_
  refine gck (M0.c 11 (by decide)) ?_
  obtain ⟨g5, hx⟩ := ck hx
  refine gck (M0.b 11 (by decide) g5) ?_
  by_cases c6 : (ai σ (ma 11) (Int32.toNatClampNeg (gi σ 818 h0))) = (0 : Int32)
  · replace hx := ift c6 hx
    refine git c6 ?_
    obtain ⟨r36, m35, hy, hx⟩ := nb2 hx
    obtain ⟨s35, ey, Ms35, Vs35, Fs35⟩ := mm_X7_part0 (d := d) M0 hy
    subst Vs35
    replace Fs35 := F0.tr Fs35
    refine gb2 ey ?_
    obtain ⟨rfl, rfl⟩ := lf2 hx
    exact ⟨_, rfl, Ms35, rfl, Fs35⟩
  · replace hx := iff' c6 hx
    refine gif c6 ?_
    obtain ⟨g7, hx⟩ := ck hx
    refine gck (M0.b 11 (by decide) g7) ?_
    by_cases c8 : (ai σ (ma 11) (Int32.toNatClampNeg (gi σ 818 h0))) = (2 : Int32)
    · replace hx := ift c8 hx
      refine git c8 ?_
      obtain ⟨m32, em, hx⟩ := nbm hx
      refine gbn (fun s32 es => ?_)
      obtain ⟨Ms32, Vs32, Fs32⟩ := M0.upS (by decide) es em
      subst Vs32
      replace Fs32 := F0.tr Fs32
      obtain ⟨rfl, rfl⟩ := lf2 hx
      exact ⟨_, rfl, Ms32, rfl, Fs32⟩
    · replace hx := iff' c8 hx
      refine gif c8 ?_
      obtain ⟨r11, m10, hy, hx⟩ := nb2 hx
      obtain ⟨s10, ey, Ms10, Vs10, Fs10⟩ := mm_X7_is (d := d) M0 hy
      subst Vs10
      replace Fs10 := F0.tr Fs10
      refine gb2 ey ?_
      by_cases c12 : r11 = (0 : Int32)
      · replace hx := ift c12 hx
        refine git c12 ?_
        obtain ⟨rfl, rfl⟩ := lf2 hx
        exact ⟨_, rfl, Ms10, rfl, Fs10⟩
      · replace hx := iff' c12 hx
        refine gif c12 ?_
        refine gck Ms10.g ?_
        refine gnn (Ms10.p 11 (by decide)) ?_
        refine gck (Ms10.c 11 (by decide)) ?_
        obtain ⟨g17, hx⟩ := ck hx
        refine gck (Ms10.b 11 (by decide) g17) ?_
        obtain ⟨m18, em, hx⟩ := nbm hx
        refine gbn (fun s18 es => ?_)
        obtain ⟨Ms18, Vs18, Fs18⟩ := Ms10.upI (k := 11) (by decide) es em
        subst Vs18
        replace Fs18 := Fs10.tr Fs18
        refine gck Ms18.g ?_
        refine gnn (Ms18.p 7 (by decide)) ?_
        refine gck (Ms18.c 7 (by decide)) ?_
        obtain ⟨g24, hx⟩ := ck hx
        refine gck (Ms18.b 7 (by decide) g24) ?_
        by_cases c25 : (lg_cmp (aj s18 (ma 7) (Int32.toNatClampNeg (gi s18 819 h0))) (0 : Int64)) = (0 : Int32)
        · replace hx := ift c25 hx
          refine git c25 ?_
          obtain ⟨r28, m27, hy, hx⟩ := nb2 hx
          obtain ⟨s27, ey, Ms27, Vs27, Fs27⟩ := mm_X7_begin (d := d) Ms18 hy
          subst Vs27
          replace Fs27 := Fs18.tr Fs27
          refine gb2 ey ?_
          obtain ⟨rfl, rfl⟩ := lf2 hx
          exact ⟨_, rfl, Ms27, rfl, Fs27⟩
        · replace hx := iff' c25 hx
          refine gif c25 ?_
          obtain ⟨r31, m30, hy, hx⟩ := nb2 hx
          obtain ⟨s30, ey, Ms30, Vs30, Fs30⟩ := mm_X7_begin (d := d) Ms18 hy
          subst Vs30
          replace Fs30 := Fs18.tr Fs30
          refine gb2 ey ?_
          obtain ⟨rfl, rfl⟩ := lf2 hx
          exact ⟨_, rfl, Ms30, rfl, Fs30⟩
