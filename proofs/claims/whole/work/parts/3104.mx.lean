def mx_X7_inRow (μ : Mu) (p1 : Int32) (p2 : Int32) (p3 : Int32) (p4 : Int32) : Option (Int32 × Mu) := (if ¬ (p2 < 0 ∨ 50000 ≤ Int32.toNatClampNeg p2) then (if (mI μ 5 (Int32.toNatClampNeg p2)) = (-1 : Int32) then (b2 (mx_X7_fail μ (1 : Int32) p1) fun r261 m260 => some (r261, m260)) else (if p3 < (0 : Int32) then (b2 (mx_X7_fail μ (2 : Int32) p1) fun r10 m9 => some (r10, m9)) else (if ¬ (p2 < 0 ∨ 50000 ≤ Int32.toNatClampNeg p2) then (if p3 < (mI μ 5 (Int32.toNatClampNeg p2)) then (if ¬ (p2 < 0 ∨ 50000 ≤ Int32.toNatClampNeg p2) then (if ¬ (p1 < 0 ∨ 4000 ≤ Int32.toNatClampNeg p1) then (if (mI μ 1 (Int32.toNatClampNeg p1)) = (13 : Int32) then (if ¬ (((Int64.toInt32 (mJ μ 7 (Int32.toNatClampNeg p2))) + p3) < 0 ∨ 20000 ≤ Int32.toNatClampNeg ((Int64.toInt32 (mJ μ 7 (Int32.toNatClampNeg p2))) + p3)) then some (mI μ 8 (Int32.toNatClampNeg ((Int64.toInt32 (mJ μ 7 (Int32.toNatClampNeg p2))) + p3)), μ) else none) else (if p4 = (-1 : Int32) then (if p4 = (-1 : Int32) then (if ¬ (((Int64.toInt32 (mJ μ 7 (Int32.toNatClampNeg p2))) + p3) < 0 ∨ 20000 ≤ Int32.toNatClampNeg ((Int64.toInt32 (mJ μ 7 (Int32.toNatClampNeg p2))) + p3)) then (bm (uI μ 8 (Int32.toNatClampNeg ((Int64.toInt32 (mJ μ 7 (Int32.toNatClampNeg p2))) + p3)) p4) fun m28 => some (p4, m28)) else none) else (if ¬ (p2 < 0 ∨ 50000 ≤ Int32.toNatClampNeg p2) then (if (mI μ 6 (Int32.toNatClampNeg p2)) = (1 : Int32) then (if (0 : Int32) = (0 : Int32) then (b2 (mx_X7_fail μ (4 : Int32) p1) fun r60 m59 => some (r60, m59)) else (if ¬ (p2 < 0 ∨ 50000 ≤ Int32.toNatClampNeg p2) then (if (mI μ 6 (Int32.toNatClampNeg p2)) = (2 : Int32) then (if ¬ (p4 < 0 ∨ 50000 ≤ Int32.toNatClampNeg p4) then (if (mI μ 4 (Int32.toNatClampNeg p4)) = (3 : Int32) then (if ¬ (((Int64.toInt32 (mJ μ 7 (Int32.toNatClampNeg p2))) + p3) < 0 ∨ 20000 ≤ Int32.toNatClampNeg ((Int64.toInt32 (mJ μ 7 (Int32.toNatClampNeg p2))) + p3)) then (bm (uI μ 8 (Int32.toNatClampNeg ((Int64.toInt32 (mJ μ 7 (Int32.toNatClampNeg p2))) + p3)) p4) fun m78 => some (p4, m78)) else none) else (b2 (mx_X7_fail μ (4 : Int32) p1) fun r82 m81 => some (r82, m81))) else none) else (if ¬ (((Int64.toInt32 (mJ μ 7 (Int32.toNatClampNeg p2))) + p3) < 0 ∨ 20000 ≤ Int32.toNatClampNeg ((Int64.toInt32 (mJ μ 7 (Int32.toNatClampNeg p2))) + p3)) then (bm (uI μ 8 (Int32.toNatClampNeg ((Int64.toInt32 (mJ μ 7 (Int32.toNatClampNeg p2))) + p3)) p4) fun m67 => some (p4, m67)) else none)) else none)) else (if ¬ (p2 < 0 ∨ 50000 ≤ Int32.toNatClampNeg p2) then (if (mI μ 6 (Int32.toNatClampNeg p2)) = (2 : Int32) then (if ¬ (p4 < 0 ∨ 50000 ≤ Int32.toNatClampNeg p4) then (if (mI μ 4 (Int32.toNatClampNeg p4)) = (3 : Int32) then (if ¬ (((Int64.toInt32 (mJ μ 7 (Int32.toNatClampNeg p2))) + p3) < 0 ∨ 20000 ≤ Int32.toNatClampNeg ((Int64.toInt32 (mJ μ 7 (Int32.toNatClampNeg p2))) + p3)) then (bm (uI μ 8 (Int32.toNatClampNeg ((Int64.toInt32 (mJ μ 7 (Int32.toNatClampNeg p2))) + p3)) p4) fun m52 => some (p4, m52)) else none) else (b2 (mx_X7_fail μ (4 : Int32) p1) fun r56 m55 => some (r56, m55))) else none) else (if ¬ (((Int64.toInt32 (mJ μ 7 (Int32.toNatClampNeg p2))) + p3) < 0 ∨ 20000 ≤ Int32.toNatClampNeg ((Int64.toInt32 (mJ μ 7 (Int32.toNatClampNeg p2))) + p3)) then (bm (uI μ 8 (Int32.toNatClampNeg ((Int64.toInt32 (mJ μ 7 (Int32.toNatClampNeg p2))) + p3)) p4) fun m41 => some (p4, m41)) else none)) else none)) else none)) else (if ¬ (p4 < 0 ∨ 50000 ≤ Int32.toNatClampNeg p4) then (if (mI μ 4 (Int32.toNatClampNeg p4)) = (2 : Int32) then (if p4 = (-1 : Int32) then (if ¬ (((Int64.toInt32 (mJ μ 7 (Int32.toNatClampNeg p2))) + p3) < 0 ∨ 20000 ≤ Int32.toNatClampNeg ((Int64.toInt32 (mJ μ 7 (Int32.toNatClampNeg p2))) + p3)) then (bm (uI μ 8 (Int32.toNatClampNeg ((Int64.toInt32 (mJ μ 7 (Int32.toNatClampNeg p2))) + p3)) p4) fun m93 => some (p4, m93)) else none) else (if ¬ (p2 < 0 ∨ 50000 ≤ Int32.toNatClampNeg p2) then (if (mI μ 6 (Int32.toNatClampNeg p2)) = (1 : Int32) then (if (1 : Int32) = (0 : Int32) then (b2 (mx_X7_fail μ (4 : Int32) p1) fun r122 m121 => some (r122, m121)) else (if ¬ (p2 < 0 ∨ 50000 ≤ Int32.toNatClampNeg p2) then (if (mI μ 6 (Int32.toNatClampNeg p2)) = (2 : Int32) then (if ¬ (p4 < 0 ∨ 50000 ≤ Int32.toNatClampNeg p4) then (if (mI μ 4 (Int32.toNatClampNeg p4)) = (3 : Int32) then (if ¬ (((Int64.toInt32 (mJ μ 7 (Int32.toNatClampNeg p2))) + p3) < 0 ∨ 20000 ≤ Int32.toNatClampNeg ((Int64.toInt32 (mJ μ 7 (Int32.toNatClampNeg p2))) + p3)) then (bm (uI μ 8 (Int32.toNatClampNeg ((Int64.toInt32 (mJ μ 7 (Int32.toNatClampNeg p2))) + p3)) p4) fun m137 => some (p4, m137)) else none) else (b2 (mx_X7_fail μ (4 : Int32) p1) fun r141 m140 => some (r141, m140))) else none) else (if ¬ (((Int64.toInt32 (mJ μ 7 (Int32.toNatClampNeg p2))) + p3) < 0 ∨ 20000 ≤ Int32.toNatClampNeg ((Int64.toInt32 (mJ μ 7 (Int32.toNatClampNeg p2))) + p3)) then (bm (uI μ 8 (Int32.toNatClampNeg ((Int64.toInt32 (mJ μ 7 (Int32.toNatClampNeg p2))) + p3)) p4) fun m129 => some (p4, m129)) else none)) else none)) else (if ¬ (p2 < 0 ∨ 50000 ≤ Int32.toNatClampNeg p2) then (if (mI μ 6 (Int32.toNatClampNeg p2)) = (2 : Int32) then (if ¬ (p4 < 0 ∨ 50000 ≤ Int32.toNatClampNeg p4) then (if (mI μ 4 (Int32.toNatClampNeg p4)) = (3 : Int32) then (if ¬ (((Int64.toInt32 (mJ μ 7 (Int32.toNatClampNeg p2))) + p3) < 0 ∨ 20000 ≤ Int32.toNatClampNeg ((Int64.toInt32 (mJ μ 7 (Int32.toNatClampNeg p2))) + p3)) then (bm (uI μ 8 (Int32.toNatClampNeg ((Int64.toInt32 (mJ μ 7 (Int32.toNatClampNeg p2))) + p3)) p4) fun m114 => some (p4, m114)) else none) else (b2 (mx_X7_fail μ (4 : Int32) p1) fun r118 m117 => some (r118, m117))) else none) else (if ¬ (((Int64.toInt32 (mJ μ 7 (Int32.toNatClampNeg p2))) + p3) < 0 ∨ 20000 ≤ Int32.toNatClampNeg ((Int64.toInt32 (mJ μ 7 (Int32.toNatClampNeg p2))) + p3)) then (bm (uI μ 8 (Int32.toNatClampNeg ((Int64.toInt32 (mJ μ 7 (Int32.toNatClampNeg p2))) + p3)) p4) fun m106 => some (p4, m106)) else none)) else none)) else none)) else (if ¬ (p4 < 0 ∨ 50000 ≤ Int32.toNatClampNeg p4) then (if (mI μ 4 (Int32.toNatClampNeg p4)) = (3 : Int32) then (if p4 = (-1 : Int32) then (if ¬ (((Int64.toInt32 (mJ μ 7 (Int32.toNatClampNeg p2))) + p3) < 0 ∨ 20000 ≤ Int32.toNatClampNeg ((Int64.toInt32 (mJ μ 7 (Int32.toNatClampNeg p2))) + p3)) then (bm (uI μ 8 (Int32.toNatClampNeg ((Int64.toInt32 (mJ μ 7 (Int32.toNatClampNeg p2))) + p3)) p4) fun m203 => some (p4, m203)) else none) else (if ¬ (p2 < 0 ∨ 50000 ≤ Int32.toNatClampNeg p2) then (if (mI μ 6 (Int32.toNatClampNeg p2)) = (1 : Int32) then (if (1 : Int32) = (0 : Int32) then (b2 (mx_X7_fail μ (4 : Int32) p1) fun r232 m231 => some (r232, m231)) else (if ¬ (p2 < 0 ∨ 50000 ≤ Int32.toNatClampNeg p2) then (if (mI μ 6 (Int32.toNatClampNeg p2)) = (2 : Int32) then (if ¬ (p4 < 0 ∨ 50000 ≤ Int32.toNatClampNeg p4) then (if (mI μ 4 (Int32.toNatClampNeg p4)) = (3 : Int32) then (if ¬ (((Int64.toInt32 (mJ μ 7 (Int32.toNatClampNeg p2))) + p3) < 0 ∨ 20000 ≤ Int32.toNatClampNeg ((Int64.toInt32 (mJ μ 7 (Int32.toNatClampNeg p2))) + p3)) then (bm (uI μ 8 (Int32.toNatClampNeg ((Int64.toInt32 (mJ μ 7 (Int32.toNatClampNeg p2))) + p3)) p4) fun m247 => some (p4, m247)) else none) else (b2 (mx_X7_fail μ (4 : Int32) p1) fun r251 m250 => some (r251, m250))) else none) else (if ¬ (((Int64.toInt32 (mJ μ 7 (Int32.toNatClampNeg p2))) + p3) < 0 ∨ 20000 ≤ Int32.toNatClampNeg ((Int64.toInt32 (mJ μ 7 (Int32.toNatClampNeg p2))) + p3)) then (bm (uI μ 8 (Int32.toNatClampNeg ((Int64.toInt32 (mJ μ 7 (Int32.toNatClampNeg p2))) + p3)) p4) fun m239 => some (p4, m239)) else none)) else none)) else (if ¬ (p2 < 0 ∨ 50000 ≤ Int32.toNatClampNeg p2) then (if (mI μ 6 (Int32.toNatClampNeg p2)) = (2 : Int32) then (if ¬ (p4 < 0 ∨ 50000 ≤ Int32.toNatClampNeg p4) then (if (mI μ 4 (Int32.toNatClampNeg p4)) = (3 : Int32) then (if ¬ (((Int64.toInt32 (mJ μ 7 (Int32.toNatClampNeg p2))) + p3) < 0 ∨ 20000 ≤ Int32.toNatClampNeg ((Int64.toInt32 (mJ μ 7 (Int32.toNatClampNeg p2))) + p3)) then (bm (uI μ 8 (Int32.toNatClampNeg ((Int64.toInt32 (mJ μ 7 (Int32.toNatClampNeg p2))) + p3)) p4) fun m224 => some (p4, m224)) else none) else (b2 (mx_X7_fail μ (4 : Int32) p1) fun r228 m227 => some (r228, m227))) else none) else (if ¬ (((Int64.toInt32 (mJ μ 7 (Int32.toNatClampNeg p2))) + p3) < 0 ∨ 20000 ≤ Int32.toNatClampNeg ((Int64.toInt32 (mJ μ 7 (Int32.toNatClampNeg p2))) + p3)) then (bm (uI μ 8 (Int32.toNatClampNeg ((Int64.toInt32 (mJ μ 7 (Int32.toNatClampNeg p2))) + p3)) p4) fun m216 => some (p4, m216)) else none)) else none)) else none)) else (if p4 = (-1 : Int32) then (if ¬ (((Int64.toInt32 (mJ μ 7 (Int32.toNatClampNeg p2))) + p3) < 0 ∨ 20000 ≤ Int32.toNatClampNeg ((Int64.toInt32 (mJ μ 7 (Int32.toNatClampNeg p2))) + p3)) then (bm (uI μ 8 (Int32.toNatClampNeg ((Int64.toInt32 (mJ μ 7 (Int32.toNatClampNeg p2))) + p3)) p4) fun m149 => some (p4, m149)) else none) else (if ¬ (p2 < 0 ∨ 50000 ≤ Int32.toNatClampNeg p2) then (if (mI μ 6 (Int32.toNatClampNeg p2)) = (1 : Int32) then (if (0 : Int32) = (0 : Int32) then (b2 (mx_X7_fail μ (4 : Int32) p1) fun r178 m177 => some (r178, m177)) else (if ¬ (p2 < 0 ∨ 50000 ≤ Int32.toNatClampNeg p2) then (if (mI μ 6 (Int32.toNatClampNeg p2)) = (2 : Int32) then (if ¬ (p4 < 0 ∨ 50000 ≤ Int32.toNatClampNeg p4) then (if (mI μ 4 (Int32.toNatClampNeg p4)) = (3 : Int32) then (if ¬ (((Int64.toInt32 (mJ μ 7 (Int32.toNatClampNeg p2))) + p3) < 0 ∨ 20000 ≤ Int32.toNatClampNeg ((Int64.toInt32 (mJ μ 7 (Int32.toNatClampNeg p2))) + p3)) then (bm (uI μ 8 (Int32.toNatClampNeg ((Int64.toInt32 (mJ μ 7 (Int32.toNatClampNeg p2))) + p3)) p4) fun m193 => some (p4, m193)) else none) else (b2 (mx_X7_fail μ (4 : Int32) p1) fun r197 m196 => some (r197, m196))) else none) else (if ¬ (((Int64.toInt32 (mJ μ 7 (Int32.toNatClampNeg p2))) + p3) < 0 ∨ 20000 ≤ Int32.toNatClampNeg ((Int64.toInt32 (mJ μ 7 (Int32.toNatClampNeg p2))) + p3)) then (bm (uI μ 8 (Int32.toNatClampNeg ((Int64.toInt32 (mJ μ 7 (Int32.toNatClampNeg p2))) + p3)) p4) fun m185 => some (p4, m185)) else none)) else none)) else (if ¬ (p2 < 0 ∨ 50000 ≤ Int32.toNatClampNeg p2) then (if (mI μ 6 (Int32.toNatClampNeg p2)) = (2 : Int32) then (if ¬ (p4 < 0 ∨ 50000 ≤ Int32.toNatClampNeg p4) then (if (mI μ 4 (Int32.toNatClampNeg p4)) = (3 : Int32) then (if ¬ (((Int64.toInt32 (mJ μ 7 (Int32.toNatClampNeg p2))) + p3) < 0 ∨ 20000 ≤ Int32.toNatClampNeg ((Int64.toInt32 (mJ μ 7 (Int32.toNatClampNeg p2))) + p3)) then (bm (uI μ 8 (Int32.toNatClampNeg ((Int64.toInt32 (mJ μ 7 (Int32.toNatClampNeg p2))) + p3)) p4) fun m170 => some (p4, m170)) else none) else (b2 (mx_X7_fail μ (4 : Int32) p1) fun r174 m173 => some (r174, m173))) else none) else (if ¬ (((Int64.toInt32 (mJ μ 7 (Int32.toNatClampNeg p2))) + p3) < 0 ∨ 20000 ≤ Int32.toNatClampNeg ((Int64.toInt32 (mJ μ 7 (Int32.toNatClampNeg p2))) + p3)) then (bm (uI μ 8 (Int32.toNatClampNeg ((Int64.toInt32 (mJ μ 7 (Int32.toNatClampNeg p2))) + p3)) p4) fun m162 => some (p4, m162)) else none)) else none)) else none))) else none)) else none))) else none) else none) else (b2 (mx_X7_fail μ (2 : Int32) p1) fun r258 m257 => some (r258, m257))) else none))) else none)
set_option maxHeartbeats 1000000 in
theorem mm_X7_inRow {d : Dp} {σ : Sg} {h0 : Nat} {ma : Nat → Nat} {p1 : Int32} {p2 : Int32} {p3 : Int32} {p4 : Int32} {r : Int32} {μ' : Mu} (M0 : MS σ h0 ma) (hx : mx_X7_inRow (Vw σ h0 ma) p1 p2 p3 p4 = some (r, μ')) : ∃ σ', ex_X7_inRow d σ h0 p1 p2 p3 p4 = some (r, σ') ∧ MS σ' h0 ma ∧ Vw σ' h0 ma = μ' ∧ Fq σ σ' := by
  have F0 := Fq.rf σ
  unfold mx_X7_inRow at hx
  unfold ex_X7_inRow
  refine gck M0.g ?_
  refine gnn (M0.p 5 (by decide)) ?_
  refine gck (M0.c 5 (by decide)) ?_
  obtain ⟨g5, hx⟩ := ck hx
  refine gck (M0.b 5 (by decide) g5) ?_
  by_cases c6 : (ai σ (ma 5) (Int32.toNatClampNeg p2)) = (-1 : Int32)
  · replace hx := ift c6 hx
    refine git c6 ?_
    obtain ⟨r261, m260, hy, hx⟩ := nb2 hx
    obtain ⟨s260, ey, Ms260, Vs260, Fs260⟩ := mm_X7_fail (d := d) M0 hy
    subst Vs260
    replace Fs260 := F0.tr Fs260
    refine gb2 ey ?_
    obtain ⟨rfl, rfl⟩ := lf2 hx
    exact ⟨_, rfl, Ms260, rfl, Fs260⟩
  · replace hx := iff' c6 hx
    refine gif c6 ?_
    by_cases c7 : p3 < (0 : Int32)
    · replace hx := ift c7 hx
      refine git c7 ?_
      obtain ⟨r10, m9, hy, hx⟩ := nb2 hx
      obtain ⟨s9, ey, Ms9, Vs9, Fs9⟩ := mm_X7_fail (d := d) M0 hy
      subst Vs9
      replace Fs9 := F0.tr Fs9
      refine gb2 ey ?_
      obtain ⟨rfl, rfl⟩ := lf2 hx
      exact ⟨_, rfl, Ms9, rfl, Fs9⟩
    · replace hx := iff' c7 hx
      refine gif c7 ?_
      obtain ⟨g11, hx⟩ := ck hx
      refine gck (M0.b 5 (by decide) g11) ?_
      by_cases c12 : p3 < (ai σ (ma 5) (Int32.toNatClampNeg p2))
      · replace hx := ift c12 hx
        refine git c12 ?_
        refine gnn (M0.p 7 (by decide)) ?_
        refine gck (M0.c 7 (by decide)) ?_
        obtain ⟨g16, hx⟩ := ck hx
        refine gck (M0.b 7 (by decide) g16) ?_
        refine gnn (M0.p 1 (by decide)) ?_
        refine gck (M0.c 1 (by decide)) ?_
        obtain ⟨g20, hx⟩ := ck hx
        refine gck (M0.b 1 (by decide) g20) ?_
        by_cases c21 : (ai σ (ma 1) (Int32.toNatClampNeg p1)) = (13 : Int32)
        · replace hx := ift c21 hx
          refine git c21 ?_
          refine gnn (M0.p 8 (by decide)) ?_
          refine gck (M0.c 8 (by decide)) ?_
          obtain ⟨g255, hx⟩ := ck hx
          refine gck (M0.b 8 (by decide) g255) ?_
          obtain ⟨rfl, rfl⟩ := lf2 hx
          exact ⟨_, rfl, M0, rfl, F0⟩
        · replace hx := iff' c21 hx
          refine gif c21 ?_
          by_cases c22 : p4 = (-1 : Int32)
          · replace hx := ift c22 hx
            refine git c22 ?_
            by_cases c23 : p4 = (-1 : Int32)
            · replace hx := ift c23 hx
              refine git c23 ?_
              refine gnn (M0.p 8 (by decide)) ?_
              refine gck (M0.c 8 (by decide)) ?_
              obtain ⟨g27, hx⟩ := ck hx
              refine gck (M0.b 8 (by decide) g27) ?_
              obtain ⟨m28, em, hx⟩ := nbm hx
              refine gbn (fun s28 es => ?_)
              obtain ⟨Ms28, Vs28, Fs28⟩ := M0.upI (k := 8) (by decide) es em
              subst Vs28
              replace Fs28 := F0.tr Fs28
              obtain ⟨rfl, rfl⟩ := lf2 hx
              exact ⟨_, rfl, Ms28, rfl, Fs28⟩
            · replace hx := iff' c23 hx
              refine gif c23 ?_
              refine gnn (M0.p 6 (by decide)) ?_
              refine gck (M0.c 6 (by decide)) ?_
              obtain ⟨g33, hx⟩ := ck hx
              refine gck (M0.b 6 (by decide) g33) ?_
              by_cases c34 : (ai σ (ma 6) (Int32.toNatClampNeg p2)) = (1 : Int32)
              · replace hx := ift c34 hx
                refine git c34 ?_
                by_cases c57 : (0 : Int32) = (0 : Int32)
                · replace hx := ift c57 hx
                  refine git c57 ?_
                  obtain ⟨r60, m59, hy, hx⟩ := nb2 hx
                  obtain ⟨s59, ey, Ms59, Vs59, Fs59⟩ := mm_X7_fail (d := d) M0 hy
                  subst Vs59
                  replace Fs59 := F0.tr Fs59
                  refine gb2 ey ?_
                  obtain ⟨rfl, rfl⟩ := lf2 hx
                  exact ⟨_, rfl, Ms59, rfl, Fs59⟩
                · replace hx := iff' c57 hx
                  refine gif c57 ?_
                  obtain ⟨g61, hx⟩ := ck hx
                  refine gck (M0.b 6 (by decide) g61) ?_
                  by_cases c62 : (ai σ (ma 6) (Int32.toNatClampNeg p2)) = (2 : Int32)
                  · replace hx := ift c62 hx
                    refine git c62 ?_
                    refine gnn (M0.p 4 (by decide)) ?_
                    refine gck (M0.c 4 (by decide)) ?_
                    obtain ⟨g72, hx⟩ := ck hx
                    refine gck (M0.b 4 (by decide) g72) ?_
                    by_cases c73 : (ai σ (ma 4) (Int32.toNatClampNeg p4)) = (3 : Int32)
                    · replace hx := ift c73 hx
                      refine git c73 ?_
                      refine gnn (M0.p 8 (by decide)) ?_
                      refine gck (M0.c 8 (by decide)) ?_
                      obtain ⟨g77, hx⟩ := ck hx
                      refine gck (M0.b 8 (by decide) g77) ?_
                      obtain ⟨m78, em, hx⟩ := nbm hx
                      refine gbn (fun s78 es => ?_)
                      obtain ⟨Ms78, Vs78, Fs78⟩ := M0.upI (k := 8) (by decide) es em
                      subst Vs78
                      replace Fs78 := F0.tr Fs78
                      obtain ⟨rfl, rfl⟩ := lf2 hx
                      exact ⟨_, rfl, Ms78, rfl, Fs78⟩
                    · replace hx := iff' c73 hx
                      refine gif c73 ?_
                      obtain ⟨r82, m81, hy, hx⟩ := nb2 hx
                      obtain ⟨s81, ey, Ms81, Vs81, Fs81⟩ := mm_X7_fail (d := d) M0 hy
                      subst Vs81
                      replace Fs81 := F0.tr Fs81
                      refine gb2 ey ?_
                      obtain ⟨rfl, rfl⟩ := lf2 hx
                      exact ⟨_, rfl, Ms81, rfl, Fs81⟩
                  · replace hx := iff' c62 hx
                    refine gif c62 ?_
                    refine gnn (M0.p 8 (by decide)) ?_
                    refine gck (M0.c 8 (by decide)) ?_
                    obtain ⟨g66, hx⟩ := ck hx
                    refine gck (M0.b 8 (by decide) g66) ?_
                    obtain ⟨m67, em, hx⟩ := nbm hx
                    refine gbn (fun s67 es => ?_)
                    obtain ⟨Ms67, Vs67, Fs67⟩ := M0.upI (k := 8) (by decide) es em
                    subst Vs67
                    replace Fs67 := F0.tr Fs67
                    obtain ⟨rfl, rfl⟩ := lf2 hx
                    exact ⟨_, rfl, Ms67, rfl, Fs67⟩
              · replace hx := iff' c34 hx
                refine gif c34 ?_
                obtain ⟨g35, hx⟩ := ck hx
                refine gck (M0.b 6 (by decide) g35) ?_
                by_cases c36 : (ai σ (ma 6) (Int32.toNatClampNeg p2)) = (2 : Int32)
                · replace hx := ift c36 hx
                  refine git c36 ?_
                  refine gnn (M0.p 4 (by decide)) ?_
                  refine gck (M0.c 4 (by decide)) ?_
                  obtain ⟨g46, hx⟩ := ck hx
                  refine gck (M0.b 4 (by decide) g46) ?_
                  by_cases c47 : (ai σ (ma 4) (Int32.toNatClampNeg p4)) = (3 : Int32)
                  · replace hx := ift c47 hx
                    refine git c47 ?_
                    refine gnn (M0.p 8 (by decide)) ?_
                    refine gck (M0.c 8 (by decide)) ?_
                    obtain ⟨g51, hx⟩ := ck hx
                    refine gck (M0.b 8 (by decide) g51) ?_
                    obtain ⟨m52, em, hx⟩ := nbm hx
                    refine gbn (fun s52 es => ?_)
                    obtain ⟨Ms52, Vs52, Fs52⟩ := M0.upI (k := 8) (by decide) es em
                    subst Vs52
                    replace Fs52 := F0.tr Fs52
                    obtain ⟨rfl, rfl⟩ := lf2 hx
                    exact ⟨_, rfl, Ms52, rfl, Fs52⟩
                  · replace hx := iff' c47 hx
                    refine gif c47 ?_
                    obtain ⟨r56, m55, hy, hx⟩ := nb2 hx
                    obtain ⟨s55, ey, Ms55, Vs55, Fs55⟩ := mm_X7_fail (d := d) M0 hy
                    subst Vs55
                    replace Fs55 := F0.tr Fs55
                    refine gb2 ey ?_
                    obtain ⟨rfl, rfl⟩ := lf2 hx
                    exact ⟨_, rfl, Ms55, rfl, Fs55⟩
                · replace hx := iff' c36 hx
                  refine gif c36 ?_
                  refine gnn (M0.p 8 (by decide)) ?_
                  refine gck (M0.c 8 (by decide)) ?_
                  obtain ⟨g40, hx⟩ := ck hx
                  refine gck (M0.b 8 (by decide) g40) ?_
                  obtain ⟨m41, em, hx⟩ := nbm hx
                  refine gbn (fun s41 es => ?_)
                  obtain ⟨Ms41, Vs41, Fs41⟩ := M0.upI (k := 8) (by decide) es em
                  subst Vs41
                  replace Fs41 := F0.tr Fs41
                  obtain ⟨rfl, rfl⟩ := lf2 hx
                  exact ⟨_, rfl, Ms41, rfl, Fs41⟩
          · replace hx := iff' c22 hx
            refine gif c22 ?_
            refine gnn (M0.p 4 (by decide)) ?_
            refine gck (M0.c 4 (by decide)) ?_
            obtain ⟨g86, hx⟩ := ck hx
            refine gck (M0.b 4 (by decide) g86) ?_
            by_cases c87 : (ai σ (ma 4) (Int32.toNatClampNeg p4)) = (2 : Int32)
            · replace hx := ift c87 hx
              refine git c87 ?_
              by_cases c88 : p4 = (-1 : Int32)
              · replace hx := ift c88 hx
                refine git c88 ?_
                refine gnn (M0.p 8 (by decide)) ?_
                refine gck (M0.c 8 (by decide)) ?_
                obtain ⟨g92, hx⟩ := ck hx
                refine gck (M0.b 8 (by decide) g92) ?_
                obtain ⟨m93, em, hx⟩ := nbm hx
                refine gbn (fun s93 es => ?_)
                obtain ⟨Ms93, Vs93, Fs93⟩ := M0.upI (k := 8) (by decide) es em
                subst Vs93
                replace Fs93 := F0.tr Fs93
                obtain ⟨rfl, rfl⟩ := lf2 hx
                exact ⟨_, rfl, Ms93, rfl, Fs93⟩
              · replace hx := iff' c88 hx
                refine gif c88 ?_
                refine gnn (M0.p 6 (by decide)) ?_
                refine gck (M0.c 6 (by decide)) ?_
                obtain ⟨g98, hx⟩ := ck hx
                refine gck (M0.b 6 (by decide) g98) ?_
                by_cases c99 : (ai σ (ma 6) (Int32.toNatClampNeg p2)) = (1 : Int32)
                · replace hx := ift c99 hx
                  refine git c99 ?_
                  by_cases c119 : (1 : Int32) = (0 : Int32)
                  · replace hx := ift c119 hx
                    refine git c119 ?_
                    obtain ⟨r122, m121, hy, hx⟩ := nb2 hx
                    obtain ⟨s121, ey, Ms121, Vs121, Fs121⟩ := mm_X7_fail (d := d) M0 hy
                    subst Vs121
                    replace Fs121 := F0.tr Fs121
                    refine gb2 ey ?_
                    obtain ⟨rfl, rfl⟩ := lf2 hx
                    exact ⟨_, rfl, Ms121, rfl, Fs121⟩
                  · replace hx := iff' c119 hx
                    refine gif c119 ?_
                    obtain ⟨g123, hx⟩ := ck hx
                    refine gck (M0.b 6 (by decide) g123) ?_
                    by_cases c124 : (ai σ (ma 6) (Int32.toNatClampNeg p2)) = (2 : Int32)
                    · replace hx := ift c124 hx
                      refine git c124 ?_
                      obtain ⟨g131, hx⟩ := ck hx
                      refine gck (M0.b 4 (by decide) g131) ?_
                      by_cases c132 : (ai σ (ma 4) (Int32.toNatClampNeg p4)) = (3 : Int32)
                      · replace hx := ift c132 hx
                        refine git c132 ?_
                        refine gnn (M0.p 8 (by decide)) ?_
                        refine gck (M0.c 8 (by decide)) ?_
                        obtain ⟨g136, hx⟩ := ck hx
                        refine gck (M0.b 8 (by decide) g136) ?_
                        obtain ⟨m137, em, hx⟩ := nbm hx
                        refine gbn (fun s137 es => ?_)
                        obtain ⟨Ms137, Vs137, Fs137⟩ := M0.upI (k := 8) (by decide) es em
                        subst Vs137
                        replace Fs137 := F0.tr Fs137
                        obtain ⟨rfl, rfl⟩ := lf2 hx
                        exact ⟨_, rfl, Ms137, rfl, Fs137⟩
                      · replace hx := iff' c132 hx
                        refine gif c132 ?_
                        obtain ⟨r141, m140, hy, hx⟩ := nb2 hx
                        obtain ⟨s140, ey, Ms140, Vs140, Fs140⟩ := mm_X7_fail (d := d) M0 hy
                        subst Vs140
                        replace Fs140 := F0.tr Fs140
                        refine gb2 ey ?_
                        obtain ⟨rfl, rfl⟩ := lf2 hx
                        exact ⟨_, rfl, Ms140, rfl, Fs140⟩
                    · replace hx := iff' c124 hx
                      refine gif c124 ?_
                      refine gnn (M0.p 8 (by decide)) ?_
                      refine gck (M0.c 8 (by decide)) ?_
                      obtain ⟨g128, hx⟩ := ck hx
                      refine gck (M0.b 8 (by decide) g128) ?_
                      obtain ⟨m129, em, hx⟩ := nbm hx
                      refine gbn (fun s129 es => ?_)
                      obtain ⟨Ms129, Vs129, Fs129⟩ := M0.upI (k := 8) (by decide) es em
                      subst Vs129
                      replace Fs129 := F0.tr Fs129
                      obtain ⟨rfl, rfl⟩ := lf2 hx
                      exact ⟨_, rfl, Ms129, rfl, Fs129⟩
                · replace hx := iff' c99 hx
                  refine gif c99 ?_
                  obtain ⟨g100, hx⟩ := ck hx
                  refine gck (M0.b 6 (by decide) g100) ?_
                  by_cases c101 : (ai σ (ma 6) (Int32.toNatClampNeg p2)) = (2 : Int32)
                  · replace hx := ift c101 hx
                    refine git c101 ?_
                    obtain ⟨g108, hx⟩ := ck hx
                    refine gck (M0.b 4 (by decide) g108) ?_
                    by_cases c109 : (ai σ (ma 4) (Int32.toNatClampNeg p4)) = (3 : Int32)
                    · replace hx := ift c109 hx
                      refine git c109 ?_
                      refine gnn (M0.p 8 (by decide)) ?_
                      refine gck (M0.c 8 (by decide)) ?_
                      obtain ⟨g113, hx⟩ := ck hx
                      refine gck (M0.b 8 (by decide) g113) ?_
                      obtain ⟨m114, em, hx⟩ := nbm hx
                      refine gbn (fun s114 es => ?_)
                      obtain ⟨Ms114, Vs114, Fs114⟩ := M0.upI (k := 8) (by decide) es em
                      subst Vs114
                      replace Fs114 := F0.tr Fs114
                      obtain ⟨rfl, rfl⟩ := lf2 hx
                      exact ⟨_, rfl, Ms114, rfl, Fs114⟩
                    · replace hx := iff' c109 hx
                      refine gif c109 ?_
                      obtain ⟨r118, m117, hy, hx⟩ := nb2 hx
                      obtain ⟨s117, ey, Ms117, Vs117, Fs117⟩ := mm_X7_fail (d := d) M0 hy
                      subst Vs117
                      replace Fs117 := F0.tr Fs117
                      refine gb2 ey ?_
                      obtain ⟨rfl, rfl⟩ := lf2 hx
                      exact ⟨_, rfl, Ms117, rfl, Fs117⟩
                  · replace hx := iff' c101 hx
                    refine gif c101 ?_
                    refine gnn (M0.p 8 (by decide)) ?_
                    refine gck (M0.c 8 (by decide)) ?_
                    obtain ⟨g105, hx⟩ := ck hx
                    refine gck (M0.b 8 (by decide) g105) ?_
                    obtain ⟨m106, em, hx⟩ := nbm hx
                    refine gbn (fun s106 es => ?_)
                    obtain ⟨Ms106, Vs106, Fs106⟩ := M0.upI (k := 8) (by decide) es em
                    subst Vs106
                    replace Fs106 := F0.tr Fs106
                    obtain ⟨rfl, rfl⟩ := lf2 hx
                    exact ⟨_, rfl, Ms106, rfl, Fs106⟩
            · replace hx := iff' c87 hx
              refine gif c87 ?_
              obtain ⟨g142, hx⟩ := ck hx
              refine gck (M0.b 4 (by decide) g142) ?_
              by_cases c143 : (ai σ (ma 4) (Int32.toNatClampNeg p4)) = (3 : Int32)
              · replace hx := ift c143 hx
                refine git c143 ?_
                by_cases c198 : p4 = (-1 : Int32)
                · replace hx := ift c198 hx
                  refine git c198 ?_
                  refine gnn (M0.p 8 (by decide)) ?_
                  refine gck (M0.c 8 (by decide)) ?_
                  obtain ⟨g202, hx⟩ := ck hx
                  refine gck (M0.b 8 (by decide) g202) ?_
                  obtain ⟨m203, em, hx⟩ := nbm hx
                  refine gbn (fun s203 es => ?_)
                  obtain ⟨Ms203, Vs203, Fs203⟩ := M0.upI (k := 8) (by decide) es em
                  subst Vs203
                  replace Fs203 := F0.tr Fs203
                  obtain ⟨rfl, rfl⟩ := lf2 hx
                  exact ⟨_, rfl, Ms203, rfl, Fs203⟩
                · replace hx := iff' c198 hx
                  refine gif c198 ?_
                  refine gnn (M0.p 6 (by decide)) ?_
                  refine gck (M0.c 6 (by decide)) ?_
                  obtain ⟨g208, hx⟩ := ck hx
                  refine gck (M0.b 6 (by decide) g208) ?_
                  by_cases c209 : (ai σ (ma 6) (Int32.toNatClampNeg p2)) = (1 : Int32)
                  · replace hx := ift c209 hx
                    refine git c209 ?_
                    by_cases c229 : (1 : Int32) = (0 : Int32)
                    · replace hx := ift c229 hx
                      refine git c229 ?_
                      obtain ⟨r232, m231, hy, hx⟩ := nb2 hx
                      obtain ⟨s231, ey, Ms231, Vs231, Fs231⟩ := mm_X7_fail (d := d) M0 hy
                      subst Vs231
                      replace Fs231 := F0.tr Fs231
                      refine gb2 ey ?_
                      obtain ⟨rfl, rfl⟩ := lf2 hx
                      exact ⟨_, rfl, Ms231, rfl, Fs231⟩
                    · replace hx := iff' c229 hx
                      refine gif c229 ?_
                      obtain ⟨g233, hx⟩ := ck hx
                      refine gck (M0.b 6 (by decide) g233) ?_
                      by_cases c234 : (ai σ (ma 6) (Int32.toNatClampNeg p2)) = (2 : Int32)
                      · replace hx := ift c234 hx
                        refine git c234 ?_
                        obtain ⟨g241, hx⟩ := ck hx
                        refine gck (M0.b 4 (by decide) g241) ?_
                        by_cases c242 : (ai σ (ma 4) (Int32.toNatClampNeg p4)) = (3 : Int32)
                        · replace hx := ift c242 hx
                          refine git c242 ?_
                          refine gnn (M0.p 8 (by decide)) ?_
                          refine gck (M0.c 8 (by decide)) ?_
                          obtain ⟨g246, hx⟩ := ck hx
                          refine gck (M0.b 8 (by decide) g246) ?_
                          obtain ⟨m247, em, hx⟩ := nbm hx
                          refine gbn (fun s247 es => ?_)
                          obtain ⟨Ms247, Vs247, Fs247⟩ := M0.upI (k := 8) (by decide) es em
                          subst Vs247
                          replace Fs247 := F0.tr Fs247
                          obtain ⟨rfl, rfl⟩ := lf2 hx
                          exact ⟨_, rfl, Ms247, rfl, Fs247⟩
                        · replace hx := iff' c242 hx
                          refine gif c242 ?_
                          obtain ⟨r251, m250, hy, hx⟩ := nb2 hx
                          obtain ⟨s250, ey, Ms250, Vs250, Fs250⟩ := mm_X7_fail (d := d) M0 hy
                          subst Vs250
                          replace Fs250 := F0.tr Fs250
                          refine gb2 ey ?_
                          obtain ⟨rfl, rfl⟩ := lf2 hx
                          exact ⟨_, rfl, Ms250, rfl, Fs250⟩
                      · replace hx := iff' c234 hx
                        refine gif c234 ?_
                        refine gnn (M0.p 8 (by decide)) ?_
                        refine gck (M0.c 8 (by decide)) ?_
                        obtain ⟨g238, hx⟩ := ck hx
                        refine gck (M0.b 8 (by decide) g238) ?_
                        obtain ⟨m239, em, hx⟩ := nbm hx
                        refine gbn (fun s239 es => ?_)
                        obtain ⟨Ms239, Vs239, Fs239⟩ := M0.upI (k := 8) (by decide) es em
                        subst Vs239
                        replace Fs239 := F0.tr Fs239
                        obtain ⟨rfl, rfl⟩ := lf2 hx
                        exact ⟨_, rfl, Ms239, rfl, Fs239⟩
                  · replace hx := iff' c209 hx
                    refine gif c209 ?_
                    obtain ⟨g210, hx⟩ := ck hx
                    refine gck (M0.b 6 (by decide) g210) ?_
                    by_cases c211 : (ai σ (ma 6) (Int32.toNatClampNeg p2)) = (2 : Int32)
                    · replace hx := ift c211 hx
                      refine git c211 ?_
                      obtain ⟨g218, hx⟩ := ck hx
                      refine gck (M0.b 4 (by decide) g218) ?_
                      by_cases c219 : (ai σ (ma 4) (Int32.toNatClampNeg p4)) = (3 : Int32)
                      · replace hx := ift c219 hx
                        refine git c219 ?_
                        refine gnn (M0.p 8 (by decide)) ?_
                        refine gck (M0.c 8 (by decide)) ?_
                        obtain ⟨g223, hx⟩ := ck hx
                        refine gck (M0.b 8 (by decide) g223) ?_
                        obtain ⟨m224, em, hx⟩ := nbm hx
                        refine gbn (fun s224 es => ?_)
                        obtain ⟨Ms224, Vs224, Fs224⟩ := M0.upI (k := 8) (by decide) es em
                        subst Vs224
                        replace Fs224 := F0.tr Fs224
                        obtain ⟨rfl, rfl⟩ := lf2 hx
                        exact ⟨_, rfl, Ms224, rfl, Fs224⟩
                      · replace hx := iff' c219 hx
                        refine gif c219 ?_
                        obtain ⟨r228, m227, hy, hx⟩ := nb2 hx
                        obtain ⟨s227, ey, Ms227, Vs227, Fs227⟩ := mm_X7_fail (d := d) M0 hy
                        subst Vs227
                        replace Fs227 := F0.tr Fs227
                        refine gb2 ey ?_
                        obtain ⟨rfl, rfl⟩ := lf2 hx
                        exact ⟨_, rfl, Ms227, rfl, Fs227⟩
                    · replace hx := iff' c211 hx
                      refine gif c211 ?_
                      refine gnn (M0.p 8 (by decide)) ?_
                      refine gck (M0.c 8 (by decide)) ?_
                      obtain ⟨g215, hx⟩ := ck hx
                      refine gck (M0.b 8 (by decide) g215) ?_
                      obtain ⟨m216, em, hx⟩ := nbm hx
                      refine gbn (fun s216 es => ?_)
                      obtain ⟨Ms216, Vs216, Fs216⟩ := M0.upI (k := 8) (by decide) es em
                      subst Vs216
                      replace Fs216 := F0.tr Fs216
                      obtain ⟨rfl, rfl⟩ := lf2 hx
                      exact ⟨_, rfl, Ms216, rfl, Fs216⟩
              · replace hx := iff' c143 hx
                refine gif c143 ?_
                by_cases c144 : p4 = (-1 : Int32)
                · replace hx := ift c144 hx
                  refine git c144 ?_
                  refine gnn (M0.p 8 (by decide)) ?_
                  refine gck (M0.c 8 (by decide)) ?_
                  obtain ⟨g148, hx⟩ := ck hx
                  refine gck (M0.b 8 (by decide) g148) ?_
                  obtain ⟨m149, em, hx⟩ := nbm hx
                  refine gbn (fun s149 es => ?_)
                  obtain ⟨Ms149, Vs149, Fs149⟩ := M0.upI (k := 8) (by decide) es em
                  subst Vs149
                  replace Fs149 := F0.tr Fs149
                  obtain ⟨rfl, rfl⟩ := lf2 hx
                  exact ⟨_, rfl, Ms149, rfl, Fs149⟩
                · replace hx := iff' c144 hx
                  refine gif c144 ?_
                  refine gnn (M0.p 6 (by decide)) ?_
                  refine gck (M0.c 6 (by decide)) ?_
                  obtain ⟨g154, hx⟩ := ck hx
                  refine gck (M0.b 6 (by decide) g154) ?_
                  by_cases c155 : (ai σ (ma 6) (Int32.toNatClampNeg p2)) = (1 : Int32)
                  · replace hx := ift c155 hx
                    refine git c155 ?_
                    by_cases c175 : (0 : Int32) = (0 : Int32)
                    · replace hx := ift c175 hx
                      refine git c175 ?_
                      obtain ⟨r178, m177, hy, hx⟩ := nb2 hx
                      obtain ⟨s177, ey, Ms177, Vs177, Fs177⟩ := mm_X7_fail (d := d) M0 hy
                      subst Vs177
                      replace Fs177 := F0.tr Fs177
                      refine gb2 ey ?_
                      obtain ⟨rfl, rfl⟩ := lf2 hx
                      exact ⟨_, rfl, Ms177, rfl, Fs177⟩
                    · replace hx := iff' c175 hx
                      refine gif c175 ?_
                      obtain ⟨g179, hx⟩ := ck hx
                      refine gck (M0.b 6 (by decide) g179) ?_
                      by_cases c180 : (ai σ (ma 6) (Int32.toNatClampNeg p2)) = (2 : Int32)
                      · replace hx := ift c180 hx
                        refine git c180 ?_
                        obtain ⟨g187, hx⟩ := ck hx
                        refine gck (M0.b 4 (by decide) g187) ?_
                        by_cases c188 : (ai σ (ma 4) (Int32.toNatClampNeg p4)) = (3 : Int32)
                        · replace hx := ift c188 hx
                          refine git c188 ?_
                          refine gnn (M0.p 8 (by decide)) ?_
                          refine gck (M0.c 8 (by decide)) ?_
                          obtain ⟨g192, hx⟩ := ck hx
                          refine gck (M0.b 8 (by decide) g192) ?_
                          obtain ⟨m193, em, hx⟩ := nbm hx
                          refine gbn (fun s193 es => ?_)
                          obtain ⟨Ms193, Vs193, Fs193⟩ := M0.upI (k := 8) (by decide) es em
                          subst Vs193
                          replace Fs193 := F0.tr Fs193
                          obtain ⟨rfl, rfl⟩ := lf2 hx
                          exact ⟨_, rfl, Ms193, rfl, Fs193⟩
                        · replace hx := iff' c188 hx
                          refine gif c188 ?_
                          obtain ⟨r197, m196, hy, hx⟩ := nb2 hx
                          obtain ⟨s196, ey, Ms196, Vs196, Fs196⟩ := mm_X7_fail (d := d) M0 hy
                          subst Vs196
                          replace Fs196 := F0.tr Fs196
                          refine gb2 ey ?_
                          obtain ⟨rfl, rfl⟩ := lf2 hx
                          exact ⟨_, rfl, Ms196, rfl, Fs196⟩
                      · replace hx := iff' c180 hx
                        refine gif c180 ?_
                        refine gnn (M0.p 8 (by decide)) ?_
                        refine gck (M0.c 8 (by decide)) ?_
                        obtain ⟨g184, hx⟩ := ck hx
                        refine gck (M0.b 8 (by decide) g184) ?_
                        obtain ⟨m185, em, hx⟩ := nbm hx
                        refine gbn (fun s185 es => ?_)
                        obtain ⟨Ms185, Vs185, Fs185⟩ := M0.upI (k := 8) (by decide) es em
                        subst Vs185
                        replace Fs185 := F0.tr Fs185
                        obtain ⟨rfl, rfl⟩ := lf2 hx
                        exact ⟨_, rfl, Ms185, rfl, Fs185⟩
                  · replace hx := iff' c155 hx
                    refine gif c155 ?_
                    obtain ⟨g156, hx⟩ := ck hx
                    refine gck (M0.b 6 (by decide) g156) ?_
                    by_cases c157 : (ai σ (ma 6) (Int32.toNatClampNeg p2)) = (2 : Int32)
                    · replace hx := ift c157 hx
                      refine git c157 ?_
                      obtain ⟨g164, hx⟩ := ck hx
                      refine gck (M0.b 4 (by decide) g164) ?_
                      by_cases c165 : (ai σ (ma 4) (Int32.toNatClampNeg p4)) = (3 : Int32)
                      · replace hx := ift c165 hx
                        refine git c165 ?_
                        refine gnn (M0.p 8 (by decide)) ?_
                        refine gck (M0.c 8 (by decide)) ?_
                        obtain ⟨g169, hx⟩ := ck hx
                        refine gck (M0.b 8 (by decide) g169) ?_
                        obtain ⟨m170, em, hx⟩ := nbm hx
                        refine gbn (fun s170 es => ?_)
                        obtain ⟨Ms170, Vs170, Fs170⟩ := M0.upI (k := 8) (by decide) es em
                        subst Vs170
                        replace Fs170 := F0.tr Fs170
                        obtain ⟨rfl, rfl⟩ := lf2 hx
                        exact ⟨_, rfl, Ms170, rfl, Fs170⟩
                      · replace hx := iff' c165 hx
                        refine gif c165 ?_
                        obtain ⟨r174, m173, hy, hx⟩ := nb2 hx
                        obtain ⟨s173, ey, Ms173, Vs173, Fs173⟩ := mm_X7_fail (d := d) M0 hy
                        subst Vs173
                        replace Fs173 := F0.tr Fs173
                        refine gb2 ey ?_
                        obtain ⟨rfl, rfl⟩ := lf2 hx
                        exact ⟨_, rfl, Ms173, rfl, Fs173⟩
                    · replace hx := iff' c157 hx
                      refine gif c157 ?_
                      refine gnn (M0.p 8 (by decide)) ?_
                      refine gck (M0.c 8 (by decide)) ?_
                      obtain ⟨g161, hx⟩ := ck hx
                      refine gck (M0.b 8 (by decide) g161) ?_
                      obtain ⟨m162, em, hx⟩ := nbm hx
                      refine gbn (fun s162 es => ?_)
                      obtain ⟨Ms162, Vs162, Fs162⟩ := M0.upI (k := 8) (by decide) es em
                      subst Vs162
                      replace Fs162 := F0.tr Fs162
                      obtain ⟨rfl, rfl⟩ := lf2 hx
                      exact ⟨_, rfl, Ms162, rfl, Fs162⟩
      · replace hx := iff' c12 hx
        refine gif c12 ?_
        obtain ⟨r258, m257, hy, hx⟩ := nb2 hx
        obtain ⟨s257, ey, Ms257, Vs257, Fs257⟩ := mm_X7_fail (d := d) M0 hy
        subst Vs257
        replace Fs257 := F0.tr Fs257
        refine gb2 ey ?_
        obtain ⟨rfl, rfl⟩ := lf2 hx
        exact ⟨_, rfl, Ms257, rfl, Fs257⟩
